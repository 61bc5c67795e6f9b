/** Two desks in the same state; after a step of which only one could change anything they must live on alike. */
final class Twins {
    final Desk one = new Desk();
    final Desk other = new Desk();
    private final String name;

    Twins(String what, Scene scene) {
        name = what + " in " + scene + ": ";
        scene.build(one);
        scene.build(other);
    }

    /** A command that is broken or refused gives its report and, like an unknown service, changes nothing else. */
    static void refused(Scene scene, int code, int... content) {
        Twins t = new Twins(Desk.name(content), scene);
        int[] before = t.one.state();
        Desk.due(t.name + "uplink", t.one.send(content), 2);
        Desk.due(t.name + "an unknown service", t.other.send(content[0], 0), 2);
        boolean full = before[4] == 10;
        before[4] += full ? 0 : 1;
        before[5] += full ? 1 : 0;
        before[6]++;
        t.oneIs("after it", before);
        for (int older = before[4] - 1; older > 0; older--) {
            t.compareOldest();
        }
        t.one.report(2, before[0], content[0], code);
        t.other.report(2, before[0], content[0], 1);
        t.liveOn();
    }

    private void compareOldest() {
        for (int what = 0; what < 4; what++) {
            Desk.due(name + "report(" + what + ")", one.x.report(what), other.x.report(what));
        }
        Desk.due(name + "take()", one.x.take(), other.x.take());
    }

    void oneIs(String when, int[] want) {
        one.stateIs(name + when, want);
    }

    void alike(String when) {
        oneIs(when, other.state());
    }

    private void drain() {
        Desk.due(name + "reports", one.x.count(4), other.x.count(4));
        for (int left = other.x.count(4); left > 0; left--) {
            compareOldest();
        }
    }

    private void sense(int value) {
        for (int p = 0; p < 8; p++) {
            Desk.due(name + "sense", one.x.sense(p, value), other.x.sense(p, value));
        }
    }

    private void done(int... content) {
        one.done(content);
        other.done(content);
    }

    private void tick() {
        Desk.due(name + "tick", one.x.tick(), other.x.tick());
    }

    /** Ticks, frames and sensed values bring to light what no call answers: arguments, bounds, masks. */
    void liveOn() {
        alike("then");
        drain();
        tick();
        drain();
        done(200, 11, 0);
        done(201, 4, 1);
        drain();
        tick();
        tick();
        drain();
        sense(127);
        tick();
        drain();
        sense(-128);
        tick();
        tick();
        alike("at last");
        drain();
    }
}
