import java.util.Random;

/** Promises 28 to 31: mend, data, more, back. */
public final class MendedTest {
    private static final long NOTHING = FlowHouse.NOTHING;
    private static final int[] POWERS = new int[510];
    private static final int[] LOGS = new int[256];

    public static void main(String[] args) {
        int x = 1;
        for (int i = 0; i < 255; i++) {
            POWERS[i] = x;
            POWERS[i + 255] = x;
            LOGS[x] = i;
            x = x * 2 ^ (x >= 128 ? 0x11D : 0);
        }
        refusals();
        for (int seed = 0; seed < 300; seed++) {
            randomLetters(new Random(seed));
        }
        Due.end("MendedTest");
    }

    private static int times(int a, int b) {
        return a == 0 || b == 0 ? 0 : POWERS[LOGS[a] + LOGS[b]];
    }

    private static int oneBy(int a) {
        return POWERS[255 - LOGS[a]];
    }

    private static void refusals() {
        FlowHouse x = new FlowHouse();
        Due.same("data before", x.data(0, 0), FlowHouse.UNKNOWN);
        Due.same("more before", x.more(0), NOTHING);
        Due.same("back before", x.back(0, 0), NOTHING);
        Due.same("back before", x.back(1, 0), NOTHING);
        int[][] bad = {{0, 1, 1}, {7, 1, 1}, {1, 0, 1}, {1, 5, 1}, {1, 1, 0}, {1, 1, 9}, {-1, -1, -1}};
        for (int[] a : bad) {
            Due.same("mend", x.mend(a[0], a[1], a[2]), FlowHouse.OUTSIDE);
        }
        Due.same("data", x.data(0, 0), FlowHouse.UNKNOWN);
        Due.same("mend", x.mend(2, 3, 2), 1);
        Due.same("data", x.data(-1, 0), FlowHouse.UNKNOWN);
        Due.same("data", x.data(2, 0), FlowHouse.UNKNOWN);
        Due.same("data", x.data(1, 0x123456789L), 1);
        Due.same("the lowest bytes", x.back(3, 1), 0x6789);
        Due.same("more", x.more(-1), NOTHING);
        Due.same("more", x.more(3), NOTHING);
        Due.same("back", x.back(3, 2), NOTHING);
        Due.same("back", x.back(3, -1), NOTHING);
        Due.same("one alone", x.back(1, 0), NOTHING);
        Due.same("none", x.back(0, 0), NOTHING);
        Due.same("three", x.back(7, 0), NOTHING);
        Due.same("beyond", x.back(33, 0), NOTHING);
        Due.same("below 0", x.back(Integer.MIN_VALUE | 1, 0), NOTHING);
        Due.same("mend refused", x.mend(7, 1, 1), FlowHouse.OUTSIDE);
        Due.same("nothing changed", x.back(3, 1), 0x6789);
        Due.same("mend again", x.mend(2, 3, 2), 1);
        Due.same("all are 0", x.back(3, 1), 0);
        Due.same("all are 0", x.more(2), 0);
        Due.same("the greatest", x.mend(6, 4, 8), 1);
        Due.same("data", x.data(5, -1L), 1);
        Due.same("back", x.back(63, 5), -1L);
    }

    private static void randomLetters(Random random) {
        FlowHouse x = new FlowHouse();
        int k = 1 + random.nextInt(6);
        int m = 1 + random.nextInt(4);
        int l = 1 + random.nextInt(8);
        x.mend(k, m, l);
        long[] letters = new long[k];
        for (int i = 0; i < k; i++) {
            long v = random.nextLong();
            Due.same("data", x.data(i, v), 1);
            letters[i] = v << 64 - 8 * l >>> 64 - 8 * l;
        }
        for (int j = 0; j < m; j++) {
            long due = 0;
            for (int b = 0; b < l; b++) {
                int all = 0;
                for (int i = 0; i < k; i++) {
                    all ^= times((int) (letters[i] >>> 8 * b & 255), oneBy(i ^ j + 128));
                }
                due |= (long) all << 8 * b;
            }
            Due.same("more", x.more(j), due);
        }
        for (int set = -1; set < 1 << k + m + 1; set++) {
            boolean good = set >= 0 && set < 1 << k + m && Integer.bitCount(set) == k;
            for (int i = 0; i < k; i++) {
                if (good || i == 0) {
                    Due.same("back(" + set + ", " + i + ")", x.back(set, i), good ? letters[i] : NOTHING);
                }
            }
        }
    }
}
