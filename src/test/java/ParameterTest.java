/** Promises 6 and 7: parameters are read, and set as the devices do. */
public final class ParameterTest {
    private static final int[] WRONG = {-1, 8, 9, 256, Integer.MIN_VALUE, Integer.MAX_VALUE};

    public static void main(String[] args) {
        everyValue();
        firstAndLast();
        wrongNumbers();
        wrongValues();
        Desk.finish();
    }

    private static void everyValue() {
        Desk d = new Desk();
        int before = 0;
        for (int v = -128; v <= 127; v++) {
            Desk.due("sense(6, " + v + ")", d.x.sense(6, v), before);
            before = v;
            Desk.due("parameter(6)", d.x.parameter(6), v);
        }
        Desk each = new Desk();
        for (int p = 0; p < 8; p++) {
            Desk.due("sense", each.x.sense(p, 10 + p), 0);
        }
        for (int p = 0; p < 8; p++) {
            Desk.due("parameter(" + p + ")", each.x.parameter(p), 10 + p);
        }
        each.noReport();
        each.counts(9, 0);
        each.done(1, 2, 3, 200);
        Desk.due("sense after SET", each.x.sense(3, 1), -56);
    }

    private static void firstAndLast() {
        for (int p = 0; p < 8; p++) {
            Desk d = new Desk();
            Desk.due("sense(" + p + ", -128)", d.x.sense(p, -128), 0);
            Desk.due("sense(" + p + ", 127)", d.x.sense(p, 127), -128);
            Desk.due("sense(" + p + ", 0)", d.x.sense(p, 0), 127);
            Desk.due("sense(" + p + ", -129)", d.x.sense(p, -129), Desk.R);
            Desk.due("sense(" + p + ", 128)", d.x.sense(p, 128), Desk.R);
            Desk.due("parameter(" + p + ")", d.x.parameter(p), 0);
        }
    }

    private static void wrongNumbers() {
        Desk d = new Desk();
        for (int p : WRONG) {
            Desk.due("parameter(" + p + ")", d.x.parameter(p), Desk.R);
            Desk.due("sense(" + p + ", 1)", d.x.sense(p, 1), Desk.R);
        }
        for (int p = 0; p < 8; p++) {
            Desk.due("parameter(" + p + ")", d.x.parameter(p), 0);
        }
    }

    private static void wrongValues() {
        Desk d = new Desk();
        d.x.sense(0, 5);
        int[] wrong = {-129, 128, 255, -1000, Integer.MIN_VALUE, Integer.MAX_VALUE};
        for (int v : wrong) {
            Desk.due("sense(0, " + v + ")", d.x.sense(0, v), Desk.R);
        }
        Desk.due("parameter(0)", d.x.parameter(0), 5);
    }
}
