/** Promises 1 to 5 and 56: a new object, line, fate, luck, lineOf, count. */
public final class LinesTest {
    public static void main(String[] args) {
        newObject();
        line();
        fate();
        luck();
        queue();
        sixtyWait();
        fates();
        marksAreKept();
        counts();
        Due.end("LinesTest");
    }

    private static void newObject() {
        FlowHouse x = new FlowHouse();
        for (int what = 0; what < 8; what++) {
            Due.same("count(" + what + ")", x.count(what), 0);
        }
        Due.same("count(8)", x.count(8), FlowHouse.OUTSIDE);
        Due.same("count(-1)", x.count(-1), FlowHouse.OUTSIDE);
        Due.same("go", x.go(500), 0);
        Due.same("lineOf", x.lineOf(0, 0), FlowHouse.UNKNOWN);
        Due.same("flowOf", x.flowOf(0, 0), FlowHouse.UNKNOWN);
        Due.same("given", x.given(0, 0), FlowHouse.UNKNOWN);
        Due.same("letter", x.letter(0), FlowHouse.UNKNOWN);
        Due.same("worth", x.worth(0, 0, 1, 1, 1, 1, 1), FlowHouse.NOTHING);
        Due.same("grade", x.grade(0), FlowHouse.UNKNOWN);
        Due.same("bad", x.bad(-1), FlowHouse.UNKNOWN);
        for (int shelf = 0; shelf < 8; shelf++) {
            Due.same("held", x.held(shelf, 0), 0);
        }
        for (int account = 0; account < 7; account++) {
            Due.same("balance", x.balance(account), 0);
        }
    }

    private static void line() {
        FlowHouse x = new FlowHouse();
        int[][] outside = {
            {0, 0, 0, 0}, {101, 0, 0, 0}, {1, -1, 0, 0}, {1, 101, 0, 0}, {1, 0, -1, 0},
            {1, 0, 2001, 0}, {1, 0, 0, -1}, {1, 0, 0, 2001}, {Integer.MIN_VALUE, 0, 0, 0}
        };
        for (int[] a : outside) {
            Due.same("line outside", x.line(a[0], a[1], a[2], a[3]), FlowHouse.OUTSIDE);
        }
        Due.same("count(1)", x.count(1), 0);
        for (int i = 0; i < 8; i++) {
            Due.same("line", i % 2 == 0 ? x.line(1, 0, 0, 0) : x.line(100, 100, 2000, 2000), i);
            Due.same("count(1)", x.count(1), i + 1);
        }
        Due.same("line", x.line(1, 0, 0, 0), FlowHouse.FULL);
        Due.same("line: outside is ahead", x.line(0, 0, 0, 0), FlowHouse.OUTSIDE);
    }

    private static void fate() {
        FlowHouse x = new FlowHouse();
        Due.same("fate", x.fate(0, 0, 0), FlowHouse.UNKNOWN);
        x.line(10, 0, 0, 0);
        Due.same("fate: unknown is ahead", x.fate(1, 200, 0), FlowHouse.UNKNOWN);
        Due.same("fate", x.fate(-1, 0, 0), FlowHouse.UNKNOWN);
        Due.same("fate", x.fate(0, -1, 0), FlowHouse.OUTSIDE);
        Due.same("fate", x.fate(0, 200, 0), FlowHouse.OUTSIDE);
        Due.same("fate", x.fate(0, 0, -1), FlowHouse.OUTSIDE);
        Due.same("fate", x.fate(0, 0, 5), FlowHouse.OUTSIDE);
        Due.same("fate", x.fate(0, 199, 4), 1);
        Due.same("fate told", x.fate(0, 199, 0), FlowHouse.NO);
        Due.same("fate 0", x.fate(0, 198, 0), 1);
        Due.same("fate 0 told", x.fate(0, 198, 1), FlowHouse.NO);
        x.flow(1, 10, 1, 3, 1, 1, 0);
        x.go(1);
        Due.same("fate given", x.fate(0, 0, 1), FlowHouse.NO);
        Due.same("fate of the next", x.fate(0, 1, 1), 1);
    }

    private static void luck() {
        FlowHouse x = new FlowHouse();
        Due.same("luck", x.luck(0, 0, 2000), FlowHouse.UNKNOWN);
        x.line(1, 0, 0, 0);
        Due.same("luck", x.luck(0, 0, -1), FlowHouse.OUTSIDE);
        Due.same("luck", x.luck(0, 0, 1025), FlowHouse.OUTSIDE);
        Due.same("luck", x.luck(0, Integer.MIN_VALUE, 1024), 1);
        x.fate(0, 1, 0);
        x.line(1, 0, 0, 0);
        x.flow(1, 1, 1, 3, 1, 2, 0);
        x.go(2);
        Due.same("all are lost", x.lineOf(0, 7), 1);
        Due.same("the alarm alone is to come", x.count(4), 1);
        x.go(1);
        Due.same("the told fate goes ahead of luck", x.lineOf(0, 7), 1);
        x.luck(0, 0, 0);
        Due.same("go", x.go(500), 4);
        Due.same("given", x.flowOf(0, 2), 1);
        luckByNumbers(12345, 512);
        luckByNumbers(-7, 100);
        luckByNumbers(0, 1);
    }

    /** One UNIT a LETTER, each lost one sent again by its ALARM: LOST of the first 80 NUMBERS. */
    private static void luckByNumbers(int seed, int loss) {
        FlowHouse x = new FlowHouse();
        x.line(100, 0, 0, 0);
        x.line(100, 0, 0, 0);
        x.luck(0, seed, loss);
        x.flow(200, 1, 1, 8, 1, 2, 0);
        Due.allow(x, 0, "ack=1000;loss=1000;late=1000;");
        x.rule(0, 0);
        int due = 0;
        for (int number = 0; number < 80; number++) {
            long sum = seed + number * 2654435761L & 0xFFFFFFFFL;
            long mixed = (sum ^ sum >> 15) * 739 & 0xFFFFFFFFL;
            for (int i = 0; i < 10 && x.lineOf(0, 1) <= number; i++) {
                x.go(1);
            }
            due += mixed >> 22 < loss ? 1 : 0;
            Due.same("lost up to number " + number, x.lineOf(0, 7), due);
        }
    }

    private static void queue() {
        FlowHouse x = new FlowHouse();
        x.line(10, 5, 40, 20);
        x.line(10, 5, 40, 20);
        for (int i = 0; i < 5; i++) {
            x.flow(1, 20, 1, 3, 1, 2, 0);
        }
        int[][] due = {
            {1, 1, 0, 0, 0, 0, 1, 0}, {2, 1, 0, 0, 1, 20, 1, 0}, {3, 1, 0, 1, 2, 40, 1, 0},
            {4, 1, 1, 1, 2, 40, 1, 0}, {5, 1, 2, 1, 2, 40, 1, 0}, {5, 2, 2, 1, 1, 20, 1, 0},
            {5, 3, 2, 1, 0, 0, 1, 0}, {5, 3, 2, 1, 0, 0, 0, 0}
        };
        int[] ticks = {0, 0, 0, 0, 0, 2, 4, 6};
        for (int step = 0; step < due.length; step++) {
            Due.same("go(1)", x.go(1), 1);
            Due.same("NOW", x.count(0), ticks[step]);
            for (int what = 0; what < 8; what++) {
                Due.same("step " + step + " lineOf(0, " + what + ")", x.lineOf(0, what),
                        due[step][what]);
            }
        }
        Due.same("lineOf", x.lineOf(0, 8), FlowHouse.OUTSIDE);
        Due.same("lineOf", x.lineOf(0, -1), FlowHouse.OUTSIDE);
        Due.same("lineOf: unknown is ahead", x.lineOf(2, 8), FlowHouse.UNKNOWN);
        Due.same("lineOf", x.lineOf(-1, 0), FlowHouse.UNKNOWN);
    }

    private static void sixtyWait() {
        FlowHouse x = new FlowHouse();
        x.line(1, 0, 2000, 30);
        x.line(1, 0, 2000, 2000);
        x.flow(100, 1, 1, 8, 1, 2, 0);
        Due.allow(x, 5, "ack = 64000 ; loss = 1000 ; late = 1000 ;");
        Due.same("rule", x.rule(0, 5), -1);
        Due.same("go", x.go(5), 5);
        Due.same("w", x.flowOf(0, 3), 64000);
        Due.same("sent", x.flowOf(0, 0), 65);
        Due.same("came", x.lineOf(0, 0), 65);
        Due.same("wait", x.lineOf(0, 4), 60);
        Due.same("sizes", x.lineOf(0, 5), 60);
        Due.same("dropped", x.lineOf(0, 2), 3);
        Due.same("marked", x.lineOf(0, 3), 30);
    }

    /** SENT to its end at 2, ARRIVES at 22: the ticks of the ANSWER's ways tell when. */
    private static void fates() {
        int[][] due = {{0, 22, 1}, {1, -1, 0}, {2, 22, 2}, {3, 29, 1}, {4, -1, 0}};
        for (int[] d : due) {
            FlowHouse x = new FlowHouse();
            x.line(10, 20, 0, 0);
            x.line(100, 0, 100, 100);
            x.fate(0, 0, d[0]);
            x.flow(1, 15, 1, 3, 1, 2, 0);
            int answered = -1;
            int answers = 0;
            for (int i = 0; i < 9 && x.count(0) < 60 && x.flowOf(0, 8) < 2; i++) {
                x.go(1);
                if (x.flowOf(0, 10) > 0 && answered < 0) {
                    answered = x.count(0);
                }
                if (x.flowOf(0, 8) < 2) {
                    answers = x.flowOf(0, 10);
                }
            }
            Due.same("fate " + d[0] + " answered at", answered, d[0] == 1 || d[0] == 4 ? answered : d[1]);
            Due.same("fate " + d[0] + " answers", answers, d[2]);
            Due.same("fate " + d[0] + " lost", x.lineOf(0, 7), d[0] == 1 ? 1 : 0);
        }
    }

    /** A LETTER that was MARKED on a way's first LINE makes a MARKED ANSWER. */
    private static void marksAreKept() {
        FlowHouse x = new FlowHouse();
        x.line(1, 0, 2000, 0);
        x.line(100, 0, 2000, 2000);
        x.flow(1, 5, 1, 3, 1, 2, 0);
        x.flow(2, 5, 1, 3, 1 + 9 * 2, 2 + 9 * 2 + 81 * 2, 0);
        Due.allow(x, 0, "ack=7000;loss=8000;late=9000;mark=5000+n;");
        x.rule(1, 0);
        x.rule(0, 0);
        for (int i = 0; i < 40 && x.flowOf(1, 1) < 1; i++) {
            x.go(1);
        }
        Due.same("unmarked", x.flowOf(0, 3), 7000);
        Due.same("marked", x.flowOf(1, 3), 5000);
        Due.same("marked on line 0 alone", x.lineOf(1, 3), 0);
    }

    private static void counts() {
        FlowHouse x = new FlowHouse();
        x.line(10, 5, 200, 100);
        x.line(10, 5, 200, 100);
        x.flow(5, 20, 2, 3, 1, 2, 7);
        x.flow(5, 20, 2, 3, 1, 2, 1000);
        Due.same("count(2)", x.count(2), 2);
        Due.same("count(4)", x.count(4), 2);
        x.go(1);
        Due.same("NOW", x.count(0), 7);
        Due.same("done", x.count(3), 1);
        Due.same("a sending, an ALARM, a beginning", x.count(4), 3);
        x.feed(0, 0, 0, 0, 0);
        Due.same("tape", x.count(5), 20);
        x.cut(7);
        Due.same("letter", x.count(6), 7);
        x.host(0, 0);
        x.host(0, 3);
        Due.same("hosts", x.count(7), 1);
    }
}
