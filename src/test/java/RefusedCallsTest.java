import java.util.function.ToIntFunction;

/** "REFUSED calls change nothing": promises 2 to 12, each call that is refused, in every scene and inside a frame. */
public final class RefusedCallsTest {
    private static final int MIN = Integer.MIN_VALUE;
    private static final int MAX = Integer.MAX_VALUE;
    private static final int[] FRAME = {235, 4, 90, 2, 3, 44, Desk.check(90, 2, 3, 44)};

    private final Scene scene;
    private final int bytesBefore;

    private RefusedCallsTest(Scene scene, int bytesBefore) {
        this.scene = scene;
        this.bytesBefore = bytesBefore;
    }

    public static void main(String[] args) {
        for (Scene scene : Scene.values()) {
            for (int bytes = 0; bytes < FRAME.length; bytes++) {
                RefusedCallsTest test = new RefusedCallsTest(scene, bytes);
                test.uplink();
                test.report();
                test.parameter();
                test.sense();
                test.planned();
                test.plannedService();
                test.watch();
                test.action();
                test.count();
                test.takeOfAnEmptyStore();
                test.reportOfAnEmptyStore();
            }
        }
        tickAtTheLastClock();
        Desk.finish();
    }

    private Twins twins(String call) {
        return new Twins(call + " behind " + bytesBefore + " bytes of a frame,", scene);
    }

    private void refused(String call, ToIntFunction<FlightDesk> asking) {
        refused(twins(call), call, asking);
    }

    private void refusedWithNoReport(String call, ToIntFunction<FlightDesk> asking) {
        Twins t = twins(call);
        t.one.empty();
        t.other.empty();
        refused(t, call, asking);
    }

    /** The call comes inside a frame, which goes on behind it; its twin goes without the call. */
    private void refused(Twins t, String call, ToIntFunction<FlightDesk> asking) {
        for (int i = 0; i < bytesBefore; i++) {
            t.one.x.uplink(FRAME[i]);
            t.other.x.uplink(FRAME[i]);
        }
        Desk.due(call, asking.applyAsInt(t.one.x), Desk.R);
        t.alike("after it");
        for (int i = bytesBefore; i < FRAME.length; i++) {
            Desk.due(call + ", byte " + i, t.one.x.uplink(FRAME[i]), i == FRAME.length - 1 ? 1 : 0);
            t.other.x.uplink(FRAME[i]);
        }
        t.liveOn();
    }

    private void uplink() {
        for (int value : new int[] {-1, 256, 235 + 256, 235 - 256, MIN, MAX}) {
            refused("uplink(" + value + ")", x -> x.uplink(value));
        }
    }

    private void report() {
        for (int what : new int[] {-1, 4, MIN, MAX}) {
            refused("report(" + what + ")", x -> x.report(what));
        }
    }

    private void parameter() {
        for (int p : new int[] {-1, 8, MIN, MAX}) {
            refused("parameter(" + p + ")", x -> x.parameter(p));
        }
    }

    private void sense() {
        for (int p : new int[] {-1, 8, MIN, MAX}) {
            refused("sense(" + p + ", 1)", x -> x.sense(p, 1));
            refused("sense(" + p + ", 128)", x -> x.sense(p, 128));
        }
        for (int value : new int[] {-129, 128, MIN, MAX}) {
            refused("sense(0, " + value + ")", x -> x.sense(0, value));
            refused("sense(7, " + value + ")", x -> x.sense(7, value));
        }
    }

    private void planned() {
        for (int k : new int[] {-1, 6, MIN, MAX}) {
            refused("planned(" + k + ")", x -> x.planned(k));
        }
        refused("planned behind the last", x -> x.planned(x.count(3)));
    }

    private void plannedService() {
        for (int k : new int[] {-1, 6, MIN, MAX}) {
            refused("plannedService(" + k + ")", x -> x.plannedService(k));
        }
        refused("plannedService behind the last", x -> x.plannedService(x.count(3)));
    }

    private void watch() {
        for (int m : new int[] {-1, 4, MIN, MAX}) {
            refused("watch(" + m + ")", x -> x.watch(m));
        }
    }

    private void action() {
        for (int e : new int[] {-1, 4, MIN, MAX}) {
            refused("action(" + e + ")", x -> x.action(e));
        }
    }

    private void count() {
        for (int what : new int[] {-1, 10, MIN, MAX}) {
            refused("count(" + what + ")", x -> x.count(what));
        }
    }

    private void takeOfAnEmptyStore() {
        refusedWithNoReport("take() of none", x -> x.take());
    }

    private void reportOfAnEmptyStore() {
        for (int what : new int[] {-1, 0, 1, 2, 3, 4}) {
            refusedWithNoReport("report(" + what + ") of none", x -> x.report(what));
        }
    }

    /** Far past the calls that the document answers for: what is due at 60001 must not come. */
    private static void tickAtTheLastClock() {
        Desk d = new Desk();
        d.ticks(59999);
        d.done(1, 3, 234, 96, 2, 0, 1);
        d.done(2, 3, 234, 97, 2, 0, 2);
        d.done(3, 6, 0, 1, 1, 1, 2, 0);
        d.done(4, 10, 0, 1, 255);
        d.empty();
        Desk.due("the last tick", d.x.tick(), 60000);
        d.report(1, 60000, 256, 2);
        d.report(5, 60000, 0, 1);
        d.noReport();
        Desk.due("count of the watch", d.x.watch(0), 1);
        int[] before = d.state();
        Desk.due("a tick too many", d.x.tick(), Desk.R);
        Desk.due("a tick too many", d.x.tick(), Desk.R);
        d.stateIs("at the last clock", before);
        d.plan(60001, 2);
        d.done(5, 1);
        d.report(3, 60000, 5, 1);
    }
}
