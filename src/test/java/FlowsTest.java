/** Promises 6 to 10: flow, rule, go, flowOf, given, by runs worked out by hand. */
public final class FlowsTest {
    public static void main(String[] args) {
        ways();
        outside();
        rule();
        go();
        atFirst();
        oneUnit();
        alarms();
        twins();
        wrongUnit();
        fails();
        smooth();
        Due.end("FlowsTest");
    }

    private static FlowHouse twoLines() {
        FlowHouse x = new FlowHouse();
        x.line(10, 5, 2000, 2000);
        x.line(10, 5, 2000, 2000);
        return x;
    }

    private static int way(int... lines) {
        int all = 0;
        for (int i = lines.length - 1; i >= 0; i--) {
            all = 9 * all + lines[i] + 1;
        }
        return all;
    }

    private static void ways() {
        FlowHouse x = twoLines();
        int[] bad = {
            0, -1, Integer.MIN_VALUE, Integer.MAX_VALUE, way(2), way(0, 2), way(0, 1, 2), 9, 81, 90,
            1 + 81, 729, 730, way(0, 0, 0) + 729
        };
        for (int told : bad) {
            Due.same("there " + told, x.flow(1, 1, 1, 3, told, 1, 0), FlowHouse.UNKNOWN);
            Due.same("back " + told, x.flow(1, 1, 1, 3, 1, told, 0), FlowHouse.UNKNOWN);
            Due.same("unknown is ahead", x.flow(0, 1, 1, 3, 1, told, 0), FlowHouse.UNKNOWN);
        }
        Due.same("none was made", x.count(2), 0);
        int[] good = {way(0), way(1), way(0, 0), way(1, 0), way(0, 1, 0), way(1, 1, 1)};
        for (int i = 0; i < 6; i++) {
            Due.same("flow", x.flow(1, 1, 1, 3, good[i], good[5 - i], 0), i);
        }
        Due.same("full", x.flow(1, 1, 1, 3, 1, 1, 0), FlowHouse.FULL);
        Due.same("outside is ahead", x.flow(0, 1, 1, 3, 1, 1, 0), FlowHouse.OUTSIDE);
        Due.same("unknown is ahead", x.flow(0, 1, 1, 3, 0, 1, 0), FlowHouse.UNKNOWN);
        Due.same("go", x.go(500) > 0 ? 1 : 0, 1);
        for (int i = 0; i < 6; i++) {
            Due.same("all ways lead there", x.given(i, 0), 0);
        }
    }

    private static void outside() {
        FlowHouse x = twoLines();
        int[][] bad = {
            {0, 1, 1, 3, 0}, {201, 1, 1, 3, 0}, {1, 0, 1, 3, 0}, {1, 201, 1, 3, 0}, {1, 1, 0, 3, 0},
            {1, 1, 201, 3, 0}, {1, 1, 1, 2, 0}, {1, 1, 1, 9, 0}, {1, 1, 1, 3, -1}, {1, 1, 1, 3, 1001}
        };
        for (int[] a : bad) {
            Due.same("outside", x.flow(a[0], a[1], a[2], a[3], 1, 1, a[4]), FlowHouse.OUTSIDE);
        }
        Due.same("edges", x.flow(200, 200, 200, 8, 1, 2, 1000), 0);
        Due.same("go", x.go(1), 1);
        Due.same("before NOW", x.flow(1, 1, 1, 3, 1, 1, 999), FlowHouse.OUTSIDE);
        Due.same("NOW", x.flow(1, 1, 1, 3, 1, 1, 1000), 1);
        Due.same("too late", x.flow(1, 1, 1, 3, 1, 1, 2001), FlowHouse.OUTSIDE);
        Due.same("latest", x.flow(1, 1, 1, 3, 1, 1, 2000), 2);
    }

    private static void rule() {
        FlowHouse x = twoLines();
        Due.same("rule", x.rule(0, -1), FlowHouse.UNKNOWN);
        x.flow(1, 1, 1, 3, 1, 2, 0);
        for (int r = -2; r < 8; r++) {
            Due.same("rule(0, " + r + ")", x.rule(0, r), FlowHouse.UNKNOWN);
        }
        Due.allow(x, 3, "ack=1;loss=1;late=1;");
        Due.same("rule", x.rule(0, 3), -1);
        Due.same("RULE", x.flowOf(0, 16), 3);
        Due.same("rule", x.rule(0, -1), 3);
        Due.same("RULE", x.flowOf(0, 16), -1);
        Due.same("rule", x.rule(0, 2), FlowHouse.UNKNOWN);
        Due.same("rule", x.rule(1, 3), FlowHouse.UNKNOWN);
    }

    private static void go() {
        FlowHouse x = new FlowHouse();
        Due.same("go", x.go(0), FlowHouse.OUTSIDE);
        Due.same("go", x.go(-1), FlowHouse.OUTSIDE);
        Due.same("go", x.go(501), FlowHouse.OUTSIDE);
        x.line(100, 0, 0, 0);
        x.luck(0, 0, 1024);
        for (int i = 0; i < 6; i++) {
            x.flow(1, 1, 1, 3, 1, 1, 0);
        }
        for (int i = 0; i < 59; i++) {
            Due.same("go", x.go(500), 500);
        }
        Due.same("go", x.go(499), 499);
        Due.same("done", x.count(3), 29999);
        Due.same("go", x.go(2), FlowHouse.FULL);
        Due.same("go: outside is ahead", x.go(501), FlowHouse.OUTSIDE);
        Due.same("go", x.go(1), 1);
        Due.same("go", x.go(1), FlowHouse.FULL);
        Due.same("done", x.count(3), 30000);
    }

    private static void atFirst() {
        FlowHouse x = twoLines();
        x.flow(9, 1, 1, 3, 1, 2, 0);
        int[] due = {0, 0, 0, 1000, 100, -1, -1, -1, 0, 0, 0, 0, 0, 0, -3, 0, -1, 0};
        for (int what = 0; what < due.length; what++) {
            Due.same("flowOf(0, " + what + ")", x.flowOf(0, what), due[what]);
        }
        Due.same("flowOf", x.flowOf(0, 18), FlowHouse.OUTSIDE);
        Due.same("flowOf", x.flowOf(0, -1), FlowHouse.OUTSIDE);
        Due.same("flowOf", x.flowOf(1, 18), FlowHouse.UNKNOWN);
        Due.same("given", x.given(0, 0), FlowHouse.UNKNOWN);
        Due.same("given", x.given(0, -1), FlowHouse.UNKNOWN);
    }

    /** Sent at 3 to 5, arrives at 10, answered to 11, which arrives at 16. */
    private static void oneUnit() {
        FlowHouse x = twoLines();
        x.flow(1, 20, 10, 3, 1, 2, 3);
        int[] ticks = {3, 5, 10, 11, 16};
        int[] pending = {2, 2, 2, 2, 0};
        for (int i = 0; i < ticks.length; i++) {
            Due.same("go", x.go(1), 1);
            Due.same("NOW", x.count(0), ticks[i]);
            Due.same("to come", x.count(4), pending[i]);
            Due.same("ALARM", x.flowOf(0, 14), i < 4 ? 103 : -3);
            Due.same("GIVEN", x.flowOf(0, 2), i < 2 ? 0 : 1);
        }
        int[] due = {1, 1, 1, 2000, 37, 13, 6, 13, 1, 0, 1, 0, 0, 0, -3, 1, -1, 0};
        for (int what = 0; what < due.length; what++) {
            Due.same("flowOf(0, " + what + ")", x.flowOf(0, what), due[what]);
        }
        Due.same("go", x.go(500), 0);
    }

    /** All is LOST: the ALARM rings at 100, 300, 700, 1100, ..; WAIT is 400 at most. */
    private static void alarms() {
        FlowHouse x = twoLines();
        x.luck(0, 1, 1024);
        x.flow(5, 10, 10, 3, 1, 2, 0);
        int[] ticks = {0, 1, 100, 101, 300, 301, 700, 701, 1100, 1101, 1500};
        int[] waits = {100, 100, 200, 200, 400, 400, 400, 400, 400, 400, 400};
        for (int i = 0; i < ticks.length; i++) {
            x.go(1);
            Due.same("NOW", x.count(0), ticks[i]);
            Due.same("WAIT", x.flowOf(0, 4), waits[i]);
            Due.same("sent", x.flowOf(0, 0), 1);
            Due.same("DATA", x.flowOf(0, 8), i / 2 + 1);
            Due.same("again", x.flowOf(0, 9), i / 2);
            Due.same("FENCE", x.flowOf(0, 17), i < 2 ? 0 : 1);
        }
        x.luck(0, 1, 0);
        x.go(1);
        x.go(500);
        Due.same("all", x.flowOf(0, 2), 5);
    }

    /** Eight are under way, the first is LOST: the fourth ANSWER is the third twin. */
    private static void twins() {
        FlowHouse x = twoLines();
        Due.allow(x, 0, "ack=8000;loss=3000;late=1000;");
        x.flow(50, 10, 1, 8, 1, 2, 0);
        x.rule(0, 0);
        x.fate(0, 1, 1);
        while (x.flowOf(0, 1) < 1) {
            x.go(1);
        }
        Due.same("sent", x.flowOf(0, 0), 9);
        int twins = 0;
        for (int i = 0; i < 60 && x.flowOf(0, 11) < 3; i++) {
            x.go(1);
            Due.yes("twins rise by one", x.flowOf(0, 11) == twins || x.flowOf(0, 11) == twins + 1);
            twins = x.flowOf(0, 11);
            Due.same("again", x.flowOf(0, 9), twins < 3 ? 0 : 1);
            Due.same("w", x.flowOf(0, 3), twins < 3 ? 8000 : 3000);
            Due.same("FENCE", x.flowOf(0, 17), twins < 3 ? 0 : 9);
        }
        Due.same("twins", twins, 3);
        for (int i = 0; i < 60 && x.flowOf(0, 1) < 2; i++) {
            x.go(1);
        }
        Due.same("OPEN", x.flowOf(0, 1), 9);
        Due.same("twins are over", x.flowOf(0, 11), 0);
        Due.same("of the last that was sent once", x.flowOf(0, 7) > 0 ? 1 : 0, 1);
        Due.same("w", x.flowOf(0, 3), 8000);
    }

    /**
     * With 3 bits an old DATA that comes late enough is taken for a UNIT 8 later: the second of UNIT
     * 0, DOUBLED on the way's first LINE, is LATE on the other one, and comes when 5 are GIVEN.
     */
    private static void wrongUnit() {
        for (int late = 0; late < 2; late++) {
            FlowHouse x = new FlowHouse();
            x.line(100, 0, 2000, 2000);
            x.line(100, 0, 2000, 2000);
            x.line(100, 0, 2000, 2000);
            Due.allow(x, 0, "ack=8000;loss=8000;late=1000;");
            x.flow(20, 1, 1, 3, way(0, 1), way(2), 0);
            x.rule(0, 0);
            x.fate(0, 0, 2);
            x.fate(1, 1, 3 * late);
            x.go(500);
            Due.same("given", x.flowOf(0, 2), 20);
            Due.same("wrong", x.flowOf(0, 13), late);
            for (int i = 0; i < 20; i++) {
                Due.same("given " + i, x.given(0, i), late == 1 && i == 8 ? 0 : i);
            }
            Due.same("given", x.given(0, 20), FlowHouse.UNKNOWN);
        }
    }

    private static void fails() {
        FlowHouse x = twoLines();
        Due.allow(x, 0, "ack=w/(n-n);loss=1;late=5000%0;mark=99999999/1;".replace("99999999", "999999"));
        x.flow(2, 10, 1, 3, 1, 2, 0);
        x.rule(0, 0);
        x.fate(0, 0, 1);
        x.go(3);
        Due.same("late fails", x.flowOf(0, 12), 1);
        Due.same("w", x.flowOf(0, 3), 1000);
        x.go(500);
        Due.same("ack fails", x.flowOf(0, 12), 3);
        Due.same("w", x.flowOf(0, 3), 1000);
        FlowHouse y = twoLines();
        Due.allow(y, 0, "ack=999999*999999;loss=1;late=1;");
        y.flow(2, 10, 1, 3, 1, 2, 0);
        y.rule(0, 0);
        y.go(500);
        Due.same("w is 64000 at most", y.flowOf(0, 3), 64000);
        Due.allow(y, 0, "ack=-999999*999999;loss=1;late=1;");
        y.flow(2, 10, 1, 3, 1, 2, y.count(0));
        y.rule(1, 0);
        y.go(500);
        Due.same("w is 1000 at least", y.flowOf(1, 3), 1000);
    }

    /** TRIALS of 12, then 19 (a LATE DATA), then 12. */
    private static void smooth() {
        FlowHouse x = twoLines();
        Due.allow(x, 0, "ack=1000;loss=1000;late=1000;");
        x.flow(3, 10, 1, 3, 1, 2, 0);
        x.rule(0, 0);
        x.fate(0, 1, 3);
        int[][] due = {{12, 6, 36, 12}, {12, 6, 36, 12}, {12, 5, 32, 12}};
        for (int unit = 0; unit < 3; unit++) {
            while (x.flowOf(0, 1) <= unit) {
                x.go(1);
            }
            Due.same("SMOOTH", x.flowOf(0, 5), due[unit][0]);
            Due.same("SWING", x.flowOf(0, 6), due[unit][1]);
            Due.same("WAIT", x.flowOf(0, 4), due[unit][2]);
            Due.same("LEAST", x.flowOf(0, 7), due[unit][3]);
        }
    }
}
