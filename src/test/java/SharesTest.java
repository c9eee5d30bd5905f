import java.math.BigInteger;
import java.util.Random;

/** Promises 22 to 27: want, width, share, heldBy, server, bound. */
public final class SharesTest {
    private static final long NOTHING = FlowHouse.NOTHING;

    public static void main(String[] args) {
        refusals();
        byHand();
        noEnd();
        servers();
        for (int seed = 0; seed < 3000; seed++) {
            randomShares(new Random(seed));
            randomBounds(new Random(seed));
        }
        Due.end("SharesTest");
    }

    private static void refusals() {
        FlowHouse x = new FlowHouse();
        for (int i = -1; i <= 10; i++) {
            Due.same("heldBy", x.heldBy(i), FlowHouse.UNKNOWN);
            Due.same("share", x.share(i, 0), NOTHING);
        }
        Due.same("want", x.want(-1, 0, 0), FlowHouse.UNKNOWN);
        Due.same("want", x.want(10, -9, 99), FlowHouse.UNKNOWN);
        Due.same("want", x.want(0, -2, 0), FlowHouse.OUTSIDE);
        Due.same("want", x.want(0, 1001, 0), FlowHouse.OUTSIDE);
        Due.same("want", x.want(0, 0, -1), FlowHouse.OUTSIDE);
        Due.same("want", x.want(0, 0, 64), FlowHouse.OUTSIDE);
        Due.same("it is none still", x.heldBy(0), FlowHouse.UNKNOWN);
        Due.same("want", x.want(9, 1000, 63), 1);
        Due.same("share", x.share(9, 2), NOTHING);
        Due.same("share", x.share(9, -1), NOTHING);
        Due.same("width", x.width(-1, 0), FlowHouse.UNKNOWN);
        Due.same("width", x.width(6, 5), FlowHouse.UNKNOWN);
        Due.same("width", x.width(5, 0), FlowHouse.OUTSIDE);
        Due.same("width", x.width(5, 1001), FlowHouse.OUTSIDE);
        Due.same("width", x.width(5, 1000), 100);
        Due.same("width", x.width(5, 1), 1000);
        Due.same("share", x.share(9, 0), 1);
        Due.same("heldBy", x.heldBy(9), 5);
    }

    private static void byHand() {
        FlowHouse x = new FlowHouse();
        x.want(0, 50, 1);
        x.want(1, -1, 3);
        x.width(1, 50);
        Due.same("share", x.share(0, 0), 50);
        Due.same("its want goes ahead of a full tube", x.heldBy(0), -1);
        Due.same("share", x.share(1, 0), 50);
        Due.same("the least full tube", x.heldBy(1), 0);
        x.width(0, 101);
        Due.same("the other tube", x.heldBy(1), 1);
        x.want(1, 60, 2);
        x.want(2, -1, 2);
        x.want(3, 7, 2);
        Due.same("upper", x.share(1, 0), 43);
        Due.same("lower", x.share(1, 1), 2);
        Due.same("upper", x.share(2, 0), 43);
        Due.same("heldBy", x.heldBy(3), -1);
        x.want(4, 0, 0);
        Due.same("0 is 0 by 1", x.share(4, 0), 0);
        Due.same("0 is 0 by 1", x.share(4, 1), 1);
        Due.same("heldBy", x.heldBy(4), -1);
    }

    private static void noEnd() {
        FlowHouse x = new FlowHouse();
        x.want(0, 5, 1);
        x.want(1, -1, 0);
        Due.same("heldBy", x.heldBy(0), FlowHouse.NO);
        Due.same("heldBy", x.heldBy(1), FlowHouse.NO);
        Due.same("unknown is ahead", x.heldBy(2), FlowHouse.UNKNOWN);
        Due.same("share", x.share(0, 0), NOTHING);
        Due.same("share", x.share(1, 1), NOTHING);
        x.want(1, 900, 0);
        Due.same("share", x.share(1, 0), 900);
        Due.same("heldBy", x.heldBy(0), -1);
    }

    private static void servers() {
        FlowHouse x = new FlowHouse();
        Due.same("server", x.server(-1, 0, 0, 0, 0), FlowHouse.UNKNOWN);
        Due.same("server", x.server(3, 1, 0, 0, 0), FlowHouse.UNKNOWN);
        int[][] bad = {
            {0, 0, 0, 0}, {501, 0, 0, 0}, {1, -1, 0, 0}, {1, 1001, 0, 0}, {1, 0, -1, 0}, {1, 0, 5001, 0},
            {1, 0, 0, 1}, {10, 0, 0, 10}, {10, 0, 0, -1}, {Integer.MIN_VALUE, 0, 0, 0}
        };
        for (int[] a : bad) {
            Due.same("server", x.server(0, a[0], a[1], a[2], a[3]), FlowHouse.OUTSIDE);
        }
        Due.same("rate 1 at first", x.bound(9, 1, 3, 0, 0), 9);
        Due.same("rate 1 at first", x.bound(9, 2, 3, 0, 0), NOTHING);
        Due.same("delay 0 at first", x.bound(9, 1, 3, 1, 0), 9);
        int[][] outside = {
            {-1, 0, 1, 0, 0}, {10001, 0, 1, 0, 0}, {0, -1, 1, 0, 0}, {0, 501, 1, 0, 0}, {0, 0, 0, 0, 0},
            {0, 0, 4, 0, 0}, {0, 0, 1, -1, 0}, {0, 0, 1, 2, 0}, {0, 0, 1, 0, -1}, {0, 0, 1, 0, 2}
        };
        for (int[] a : outside) {
            Due.same("bound", x.bound(a[0], a[1], a[2], a[3], a[4]), NOTHING);
        }
        Due.same("server", x.server(0, 500, 1000, 5000, 499), 1);
        Due.same("server", x.server(1, 499, 1000, 5000, 12), 1);
        Due.same("server", x.server(2, 499, 999, 4999, 2), 1);
        Due.same("bound", x.bound(10000, 1, 3, 0, 1), 487 * 497);
    }

    /** What is FAIR has just these marks: each has its WANT, or a full TUBE in which none has more. */
    private static void randomShares(Random random) {
        FlowHouse x = new FlowHouse();
        int[] widths = new int[6];
        for (int t = 0; t < 6; t++) {
            widths[t] = 1 + random.nextInt(random.nextBoolean() ? 1000 : 20);
            x.width(t, widths[t]);
        }
        int[] wants = new int[10];
        int[] tubes = new int[10];
        for (int i = 0; i < 10; i++) {
            wants[i] = -2;
            if (random.nextInt(5) > 0) {
                tubes[i] = random.nextInt(64) & random.nextInt(64);
                wants[i] = tubes[i] != 0 && random.nextBoolean() ? -1 : random.nextInt(random.nextBoolean() ? 1001 : 15);
                x.want(i, wants[i], tubes[i]);
            }
        }
        BigInteger[] up = new BigInteger[10];
        BigInteger[] low = new BigInteger[10];
        BigInteger common = BigInteger.ONE;
        for (int i = 0; i < 10; i++) {
            if (wants[i] == -2) {
                Due.same("none", x.share(i, 0), NOTHING);
                continue;
            }
            up[i] = BigInteger.valueOf(x.share(i, 0));
            low[i] = BigInteger.valueOf(x.share(i, 1));
            Due.yes("lowest terms", low[i].signum() > 0 && up[i].gcd(low[i]).equals(BigInteger.ONE));
            common = common.multiply(low[i]);
        }
        BigInteger[] all = new BigInteger[10];
        BigInteger[] used = new BigInteger[6];
        BigInteger[] most = new BigInteger[6];
        for (int t = 0; t < 6; t++) {
            used[t] = BigInteger.ZERO;
            most[t] = BigInteger.ZERO;
        }
        for (int i = 0; i < 10; i++) {
            if (wants[i] != -2) {
                all[i] = up[i].multiply(common).divide(low[i]);
                for (int t = 0; t < 6; t++) {
                    if ((tubes[i] >> t & 1) != 0) {
                        used[t] = used[t].add(all[i]);
                        most[t] = most[t].max(all[i]);
                    }
                }
            }
        }
        for (int t = 0; t < 6; t++) {
            Due.yes("no tube bursts", used[t].compareTo(common.multiply(BigInteger.valueOf(widths[t]))) <= 0);
        }
        for (int i = 0; i < 10; i++) {
            if (wants[i] == -2) {
                continue;
            }
            int due = -9;
            for (int t = 5; t >= 0; t--) {
                boolean full = used[t].equals(common.multiply(BigInteger.valueOf(widths[t])));
                if ((tubes[i] >> t & 1) != 0 && full && all[i].equals(most[t])) {
                    due = t;
                }
            }
            if (wants[i] >= 0) {
                BigInteger want = common.multiply(BigInteger.valueOf(wants[i]));
                Due.yes("no more than its want", all[i].compareTo(want) <= 0);
                due = all[i].equals(want) ? -1 : due;
            }
            Due.same("heldBy", x.heldBy(i), due);
        }
    }

    private static void randomBounds(Random random) {
        FlowHouse x = new FlowHouse();
        int b = random.nextInt(10001);
        int n = 1 + random.nextInt(3);
        BigInteger up = BigInteger.ZERO;
        BigInteger low = BigInteger.ONE;
        int least = 500;
        for (int i = 0; i < 3; i++) {
            int rate = 1 + random.nextInt(500);
            int delay = random.nextInt(1001);
            int burst = random.nextInt(5001);
            int others = random.nextInt(rate);
            Due.same("server", x.server(i, rate, delay, burst, others), 1);
            if (i < n) {
                BigInteger rest = BigInteger.valueOf(rate - others);
                up = up.multiply(rest).add(low.multiply(BigInteger.valueOf(delay * rate + burst)));
                low = low.multiply(rest);
                least = Math.min(least, rate - others);
            }
        }
        int r = random.nextInt(random.nextBoolean() ? 501 : least + 1);
        BigInteger rate = BigInteger.valueOf(least);
        BigInteger wait = up.multiply(rate).add(low.multiply(BigInteger.valueOf(b)));
        same(x, b, r, n, 0, wait, low.multiply(rate), r > least);
        BigInteger once = up.multiply(BigInteger.valueOf(r)).add(low.multiply(BigInteger.valueOf(b)));
        same(x, b, r, n, 1, once, low, r > least);
    }

    private static void same(FlowHouse x, int b, int r, int n, int what, BigInteger up, BigInteger low,
            boolean no) {
        BigInteger by = up.gcd(low);
        Due.same("upper", x.bound(b, r, n, what, 0), no ? NOTHING : up.divide(by).longValueExact());
        Due.same("lower", x.bound(b, r, n, what, 1), no ? NOTHING : low.divide(by).longValueExact());
    }
}
