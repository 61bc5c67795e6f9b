import java.util.ArrayList;
import java.util.List;

/** What the tests share: a FlightDesk, frames sent to it, and answers compared with those that are due. */
final class Desk {
    static final int R = FlightDesk.REFUSED;
    static final String[] STATE = new String[40];
    private static int wrong = 0;

    final FlightDesk x = new FlightDesk();

    static void due(String what, long got, long want) {
        if (got != want) {
            wrong++;
            System.out.println(what + " answered " + got + ", due is " + want);
        }
    }

    static void finish() {
        if (wrong != 0) {
            System.out.println(wrong + " answers are not as due");
            System.exit(1);
        }
    }

    static int check(int... content) {
        int c = 255;
        for (int b : content) {
            c = (c * 2 % 256 + c / 128) ^ b;
        }
        return c;
    }

    /** Sends a frame but for its check; every byte must be part of it. */
    void start(int... content) {
        due("start of " + name(content), x.uplink(235), 0);
        due("length of " + name(content), x.uplink(content.length), 0);
        for (int b : content) {
            due("content of " + name(content), x.uplink(b), 0);
        }
    }

    /** Sends a whole frame with a right check. */
    int send(int... content) {
        start(content);
        return x.uplink(check(content));
    }

    void done(int... content) {
        due(name(content), send(content), 1);
    }

    /** The frame is taken and its command broken or refused; the newest report must say so with the code. */
    void refused(int code, int... content) {
        empty();
        int doneBefore = x.count(9);
        due(name(content), send(content), 2);
        due(name(content) + " done", x.count(9), doneBefore);
        report(2, x.count(0), content[0], code);
        due(name(content) + " reports left", x.count(4), 0);
    }

    /** Compares the oldest report and takes it. */
    void report(int kind, int clock, int first, int second) {
        String name = "report " + kind + " " + clock + " " + first + " " + second + ": ";
        due(name + "kind", x.report(0), kind);
        due(name + "clock", x.report(1), clock);
        due(name + "first", x.report(2), first);
        due(name + "second", x.report(3), second);
        int before = x.count(4);
        due(name + "take", x.take(), before == 0 ? R : before - 1);
    }

    void noReport() {
        due("reports left", x.count(4), 0);
    }

    void empty() {
        for (int left = x.count(4); left > 0; left--) {
            x.take();
        }
        noReport();
    }

    void counts(int first, int... wants) {
        for (int i = 0; i < wants.length; i++) {
            due("count(" + (first + i) + ")", x.count(first + i), wants[i]);
        }
    }

    void plan(int... timesAndServices) {
        int entries = timesAndServices.length / 2;
        due("entries", x.count(3), entries);
        for (int k = 0; k < entries; k++) {
            due("planned(" + k + ")", x.planned(k), timesAndServices[2 * k]);
            due("plannedService(" + k + ")", x.plannedService(k), timesAndServices[2 * k + 1]);
        }
        due("planned past the end", x.planned(entries), R);
        due("plannedService past the end", x.plannedService(entries), R);
    }

    void ticks(int n) {
        int clock = x.count(0);
        for (int i = 1; i <= n; i++) {
            due("tick", x.tick(), clock + i);
        }
    }

    /** What the calls answer that change nothing, but for the oldest report; STATE names the answers. */
    int[] state() {
        int[] answers = new int[STATE.length];
        for (int n = 0; n < 10; n++) {
            note(answers, n, "count", n, x.count(n));
        }
        for (int n = 0; n < 8; n++) {
            note(answers, 10 + n, "parameter", n, x.parameter(n));
        }
        for (int n = 0; n < 4; n++) {
            note(answers, 18 + n, "watch", n, x.watch(n));
            note(answers, 22 + n, "action", n, x.action(n));
        }
        for (int n = 0; n < 7; n++) {
            note(answers, 26 + n, "planned", n, x.planned(n));
            note(answers, 33 + n, "plannedService", n, x.plannedService(n));
        }
        return answers;
    }

    void stateIs(String when, int[] want) {
        int[] got = state();
        for (int i = 0; i < want.length; i++) {
            due(when + ", " + STATE[i], got[i], want[i]);
        }
    }

    private static void note(int[] answers, int place, String call, int n, int answer) {
        answers[place] = answer;
        STATE[place] = call + "(" + n + ")";
    }

    static String name(int... content) {
        List<Integer> numbers = new ArrayList<>();
        for (int b : content) {
            numbers.add(b);
        }
        return "frame " + numbers;
    }
}
