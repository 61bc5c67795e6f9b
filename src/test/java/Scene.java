/** States in which a desk can be when a step comes that must change nothing. */
enum Scene {
    NEW, BUSY, PLAN_FULL, PLAN_RESTS, SAFE, STORE_FULL;

    private static final int[] VALUES = {5, -7, 9, 0, 100, -128, 127, 1};

    void build(Desk d) {
        if (this == NEW) {
            return;
        }
        busy(d);
        if (this == PLAN_FULL) {
            d.done(20, 3, 1, 44, 2, 6, 6);
        } else if (this == PLAN_RESTS) {
            d.done(20, 4, 0);
            d.ticks(4);
        } else if (this == SAFE) {
            d.done(20, 11, 1);
        }
        // All but one scene leave room, so that a report too many would be seen.
        for (int left = d.x.count(4); this != STORE_FULL && left > 4; left--) {
            d.x.take();
        }
    }

    /** Something of every kind: five entries, three watches of which two count, three actions, both lists. */
    private static void busy(Desk d) {
        for (int p = 0; p < 8; p++) {
            d.x.sense(p, VALUES[p]);
        }
        d.done(1, 6, 0, 0, 0, 4, 3, 0);
        d.done(2, 6, 1, 1, 246, 10, 1, 1);
        d.done(3, 6, 2, 2, 0, 5, 2, 2);
        d.done(4, 8, 0, 2, 3, 77);
        d.done(5, 8, 1, 1);
        d.done(6, 8, 2, 7, 1);
        d.done(7, 10, 0, 2, 15);
        d.done(8, 10, 1, 3, 240);
        d.done(9, 3, 0, 4, 2, 3, 11);
        d.done(10, 3, 0, 4, 1);
        d.done(11, 3, 0, 6, 8, 3, 10, 1, 2, 3);
        d.done(12, 3, 1, 44, 7, 0);
        d.done(13, 3, 255, 255, 4, 0);
        d.ticks(1);
    }
}
