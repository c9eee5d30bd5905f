import java.util.Random;

/** Promises 2 to 10 over many nets: FlowHouse against NetModel, event by event. */
public final class NetTest {
    private static final String[] TEXTS = {
        "ack = w + 1000 ; loss = w / 2 ; late = 1000 ;",
        "ack=w+1000*1000/w;loss=w*3/4;late=w/4;mark=w*7/8;",
        "ack=max(w,t*m*10)--n;loss=min(w/2,s*100);late=if(n-2,3000,w%7);",
        "ack=64000;loss=64000;late=64000;mark=64000;",
        "ack=w+100000/(n%3);loss=w/(t+1);late=w%(m+1);mark=w/(n-n);",
        "ack=if(t-2*m,w-500,w+2000);loss=w-n*1000;late=-w;mark=9000-(s-t)*100;"
    };
    private static final NetModel.Text[][] VALUES = {
        {(w, t, m, n, s) -> w + 1000, (w, t, m, n, s) -> w / 2, (w, t, m, n, s) -> 1000L,
            (w, t, m, n, s) -> w / 2},
        {(w, t, m, n, s) -> w + 1000 * 1000 / w, (w, t, m, n, s) -> w * 3 / 4,
            (w, t, m, n, s) -> w / 4, (w, t, m, n, s) -> w * 7 / 8},
        {(w, t, m, n, s) -> Math.max(w, t * m * 10) - -n, (w, t, m, n, s) -> Math.min(w / 2, s * 100),
            (w, t, m, n, s) -> n - 2 > 0 ? 3000 : w % 7,
            (w, t, m, n, s) -> Math.min(w / 2, s * 100)},
        {(w, t, m, n, s) -> 64000L, (w, t, m, n, s) -> 64000L, (w, t, m, n, s) -> 64000L,
            (w, t, m, n, s) -> 64000L},
        {(w, t, m, n, s) -> n % 3 == 0 ? null : Long.valueOf(w + 100000 / (n % 3)),
            (w, t, m, n, s) -> t == -1 ? null : Long.valueOf(w / (t + 1)),
            (w, t, m, n, s) -> m == -1 ? null : Long.valueOf(w % (m + 1)), (w, t, m, n, s) -> null},
        {(w, t, m, n, s) -> t - 2 * m > 0 ? w - 500 : w + 2000, (w, t, m, n, s) -> w - n * 1000,
            (w, t, m, n, s) -> -w, (w, t, m, n, s) -> 9000 - (s - t) * 100}
    };

    private static final int[] sums = new int[18];
    private static int dropped = 0;
    private static int marked = 0;

    public static void main(String[] args) {
        for (int seed = 0; seed < 600; seed++) {
            run(new Random(seed), seed);
        }
        busiest();
        Due.yes("some FAILS", sums[12] > 100);
        Due.yes("some WRONG: " + sums[13], sums[13] > 20);
        Due.yes("some sent again", sums[9] > 1000);
        Due.yes("some DROPPED", dropped > 1000);
        Due.yes("some MARKED", marked > 1000);
        Due.end("NetTest");
    }

    private static int[] someWay(Random random, int lines) {
        int[] way = new int[1 + random.nextInt(3)];
        for (int i = 0; i < way.length; i++) {
            way[i] = random.nextInt(lines);
        }
        return way;
    }

    private static int told(int[] way) {
        int all = 0;
        for (int i = way.length - 1; i >= 0; i--) {
            all = all * 9 + way[i] + 1;
        }
        return all;
    }

    private static void addLine(FlowHouse x, NetModel y, Random random, int tight) {
        int rate = 1 + random.nextInt(tight == 0 ? 100 : 20);
        int trip = random.nextInt(tight == 0 ? 101 : tight == 3 ? 2 : 12);
        int room = random.nextInt(tight == 2 ? 60 : 2001);
        int mark = random.nextInt(tight == 2 ? 60 : 2001);
        Due.same("line", x.line(rate, trip, room, mark), y.lines.size());
        y.line(rate, trip, room, mark);
        int line = y.lines.size() - 1;
        if (random.nextInt(3) == 0) {
            int seed = random.nextInt();
            int loss = random.nextInt(random.nextBoolean() ? 1025 : 100);
            x.luck(line, seed, loss);
            y.lines.get(line).seed = seed;
            y.lines.get(line).loss = loss;
        }
        for (int i = random.nextInt(tight == 3 ? 40 : 14); i > 0; i--) {
            int number = random.nextInt(random.nextBoolean() || tight == 3 ? 200 : 12);
            int kind = tight == 3 ? 2 + random.nextInt(2) : random.nextInt(5);
            boolean isNew = y.lines.get(line).told.putIfAbsent(number, kind) == null;
            Due.same("fate", x.fate(line, number, kind), isNew ? 1 : FlowHouse.NO);
        }
    }

    private static void addFlow(FlowHouse x, NetModel y, Random random, int tight) {
        int units = 1 + random.nextInt(random.nextBoolean() ? 200 : 30);
        int data = 1 + random.nextInt(tight == 0 ? 200 : 12);
        int answer = 1 + random.nextInt(tight == 0 ? 200 : 5);
        int bits = tight == 0 ? 3 + random.nextInt(6) : 3 + random.nextInt(2);
        int[] there = someWay(random, y.lines.size());
        int[] back = someWay(random, y.lines.size());
        int tick = x.count(0) + random.nextInt(random.nextBoolean() ? 1 : 300);
        NetModel.Flow f = y.flow(units, data, answer, bits, there, back, tick);
        int number = y.flows.size() - 1;
        Due.same("flow", x.flow(units, data, answer, bits, told(there), told(back), tick), number);
        setRule(x, f, number, random.nextInt(TEXTS.length + 1) - 1);
    }

    private static void setRule(FlowHouse x, NetModel.Flow f, int number, int r) {
        if (r >= 0) {
            Due.same("rule", x.rule(number, r), f.rule);
            f.rule = r;
            f.texts = VALUES[r];
        }
    }

    private static void run(Random random, int seed) {
        FlowHouse x = new FlowHouse();
        NetModel y = new NetModel();
        int tight = random.nextInt(4);
        for (int r = 0; r < TEXTS.length; r++) {
            Due.yes("allow", Due.allow(x, r, TEXTS[r]) > 0);
        }
        int lines = 1 + random.nextInt(8);
        for (int i = 0; i < lines; i++) {
            addLine(x, y, random, tight);
        }
        for (int i = 1 + random.nextInt(4); i > 0; i--) {
            addFlow(x, y, random, tight);
        }
        for (int i = 0; i < 60; i++) {
            int n = 1 + random.nextInt(random.nextInt(4) == 0 ? 500 : 12);
            if (y.done + n > 30000) {
                break;
            }
            Due.same("seed " + seed + " go(" + n + ")", x.go(n), y.go(n));
            compare(x, y, seed);
            if (random.nextInt(20) == 0 && y.flows.size() < 6) {
                addFlow(x, y, random, tight);
            }
            if (random.nextInt(10) == 0) {
                int f = random.nextInt(y.flows.size());
                setRule(x, y.flows.get(f), f, random.nextInt(TEXTS.length));
            }
        }
        for (NetModel.Flow f : y.flows) {
            for (int what = 0; what < 18; what++) {
                sums[what] += f.figure(what);
            }
        }
        for (NetModel.Line l : y.lines) {
            dropped += l.counts[2];
            marked += l.counts[3];
        }
    }

    private static void compare(FlowHouse x, NetModel y, int seed) {
        String at = "seed " + seed + " at event " + y.done + " ";
        Due.same(at + "NOW", x.count(0), y.now);
        Due.same(at + "done", x.count(3), y.done);
        Due.same(at + "to come", x.count(4), y.toCome());
        for (int f = 0; f < y.flows.size(); f++) {
            NetModel.Flow flow = y.flows.get(f);
            for (int what = 0; what < 18; what++) {
                Due.same(at + "flowOf(" + f + ", " + what + ")", x.flowOf(f, what), flow.figure(what));
            }
            int has = flow.given.size();
            if (has > 0) {
                Due.same(at + "given", x.given(f, has - 1), flow.given.get(has - 1));
                Due.same(at + "given", x.given(f, has / 2), flow.given.get(has / 2));
            }
            Due.same(at + "given", x.given(f, has), FlowHouse.UNKNOWN);
        }
        for (int l = 0; l < y.lines.size(); l++) {
            for (int what = 0; what < 8; what++) {
                Due.same(at + "lineOf(" + l + ", " + what + ")", x.lineOf(l, what), y.lineOf(l, what));
            }
        }
    }

    /** All LINES, long TRIPS, small letters, great allowances: as much as may be under way. */
    private static void busiest() {
        FlowHouse x = new FlowHouse();
        NetModel y = new NetModel();
        Due.allow(x, 3, TEXTS[3]);
        for (int i = 0; i < 8; i++) {
            x.line(100, 100, 2000, 1000);
            y.line(100, 100, 2000, 1000);
            for (int number = 0; number < 20; number++) {
                x.fate(i, number * 3, 2);
                y.lines.get(i).told.put(number * 3, 2);
            }
        }
        for (int i = 0; i < 6; i++) {
            int[] there = {i, (i + 1) % 8, (i + 2) % 8};
            int[] back = {(i + 3) % 8, (i + 4) % 8, (i + 5) % 8};
            x.flow(200, 1, 1, 8, told(there), told(back), i);
            setRule(x, y.flow(200, 1, 1, 8, there, back, i), i, 3);
        }
        int most = 0;
        for (int i = 0; i < 60; i++) {
            Due.same("go", x.go(500), y.go(500));
            compare(x, y, -1);
            most = Math.max(most, x.count(4));
        }
        Due.yes("many are under way", most > 300);
    }
}
