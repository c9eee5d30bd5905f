import java.util.Random;

/** Promises 43 to 55, against Java's own arrays, casts and throws. */
public final class StoreTest {
    private static final long NOTHING = FlowHouse.NOTHING;

    static class Host {
        final int number;

        Host(int number) {
            this.number = number;
        }

        int cost() {
            return 10 + number;
        }
    }

    static class Mail extends Host {
        Mail(int number) {
            super(number);
        }

        @Override
        int cost() {
            return 2 * super.cost();
        }

        int stamps() {
            return 3;
        }
    }

    static final class SafeMail extends Mail {
        SafeMail(int number) {
            super(number);
        }

        @Override
        int cost() {
            return super.cost() + 5;
        }

        @Override
        int stamps() {
            return super.stamps() * 3 - 2;
        }
    }

    private static Object[] shelves;
    private static int made;
    private static int[] entered;
    private static int[] left;

    public static void main(String[] args) {
        byHand();
        sharing();
        fourHundred();
        ahead();
        for (int seed = 0; seed < 4000; seed++) {
            randomCalls(new Random(seed));
        }
        Due.end("StoreTest");
    }

    private static void byHand() {
        FlowHouse x = new FlowHouse();
        Due.same("crate", x.crate(0, 3, 2), 1);
        Due.same("set", x.set(0, 3, 1, Long.MIN_VALUE), 1);
        Due.same("part wraps", x.part(0, 1, -1), Long.MIN_VALUE);
        Due.same("set", x.set(0, 3, 1, -7), 1);
        Due.same("part", x.part(0, 1, 2), -3);
        Due.same("it is that now", x.get(0, 3, 1), -3);
        Due.same("part by 0", x.part(0, 1, 0), NOTHING);
        Due.same("it stays", x.get(0, 3, 1), -3);
        Due.same("crate", x.crate(1, 1, 1), 1);
        Due.same("set", x.set(1, 1, 0, 200), 1);
        Due.same("a byte", x.get(1, 1, 0), -56);
        Due.same("crate", x.crate(2, 2, 1), 1);
        Due.same("set", x.set(2, 2, 0, 0x1FFFFFFFFL), 1);
        Due.same("an int", x.get(2, 2, 0), -1);
        Due.same("host", x.host(3, 0), 0);
        Due.same("host", x.host(4, 1), 1);
        Due.same("host", x.host(5, 2), 2);
        int[][] due = {{10, -12, -12}, {22, 3, 66}, {29, 7, 203}};
        for (int i = 0; i < 3; i++) {
            for (int what = 0; what < 3; what++) {
                Due.same("asks(" + (3 + i) + ", " + what + ")", x.asks(3 + i, what), due[i][what]);
            }
        }
        Due.same("crate", x.crate(6, 5, 2), 1);
        Due.same("nothing in its cells", x.get(6, 4, 0), -1);
        Due.same("seat", x.seat(6, 0, 3), -14);
        Due.same("seat", x.seat(6, 0, 5), 1);
        Due.same("get", x.get(6, 4, 0), 2);
        Due.same("climb", x.climb(6, 3, 0), 7);
        Due.same("seat nothing", x.seat(6, 0, 7), 1);
        Due.same("climb", x.climb(6, 3, 2), 101);
        Due.same("climb", x.climb(6, 3, 3), -11);
        Due.same("climb", x.climb(6, 3, -1), -11);
        Due.same("stair", x.stair(2, 0), 4);
        Due.same("stair", x.stair(2, 1), 4);
        Due.same("stair", x.stair(3, 0), 0);
        Due.same("a length below 0", x.crate(6, 1, -1), -15);
        Due.same("it stays", x.held(6, 0), 5);
        Due.same("outside is ahead", x.crate(6, 6, -1), FlowHouse.OUTSIDE);
    }

    /** move() shares what is held; a new crate does not. */
    private static void sharing() {
        FlowHouse x = new FlowHouse();
        x.crate(0, 2, 3);
        Due.same("move", x.move(1, 0), 2);
        x.set(1, 2, 2, 9);
        Due.same("one row", x.get(0, 2, 2), 9);
        Due.same("shift in it", x.shift(0, 1, 1, 0, 2), 1);
        Due.same("shifted", x.get(0, 2, 1), 9);
        x.crate(0, 2, 3);
        Due.same("another row", x.get(0, 2, 2), 0);
        Due.same("the old one", x.get(1, 2, 2), 9);
        Due.same("move nothing", x.move(1, -1), 0);
        Due.same("nothing", x.held(1, 0), 0);
        Due.same("move nothing", x.move(0, 1), 0);
        Due.same("nothing", x.size(0, 2), -11);
    }

    private static void fourHundred() {
        FlowHouse x = new FlowHouse();
        for (int i = 0; i < 400; i++) {
            Due.same("host", x.host(i % 8, i % 3), i);
        }
        Due.same("host", x.host(0, 0), FlowHouse.FULL);
        Due.same("outside is ahead", x.host(0, 3), FlowHouse.OUTSIDE);
        Due.same("count", x.count(7), 400);
        Due.same("it stays", x.asks(7, 0), 10 + 399);
    }

    /** Those ahead of a HOST that is not taken are there. */
    private static void ahead() {
        FlowHouse x = new FlowHouse();
        x.crate(0, 4, 4);
        x.crate(1, 5, 4);
        x.host(2, 1);
        x.host(3, 0);
        x.seat(0, 0, 2);
        x.seat(0, 2, 3);
        x.seat(0, 3, 2);
        x.seat(1, 1, 2);
        x.seat(1, 3, 2);
        Due.same("shift", x.shift(0, 0, 1, 0, 4), -14);
        int[] due = {0, -1, -1, 0};
        for (int i = 0; i < 4; i++) {
            Due.same("cell " + i, x.get(1, 4, i), due[i]);
        }
        Due.same("beyond", x.shift(0, 2, 1, 0, 3), -13);
        Due.same("beyond", x.shift(0, 0, 1, 1, Integer.MAX_VALUE), -13);
        Due.same("none", x.shift(0, 4, 1, 4, 0), 1);
    }

    private static int fault(RuntimeException e) {
        if (e instanceof NullPointerException) {
            return 1;
        }
        if (e instanceof ClassCastException) {
            return 2;
        }
        if (e instanceof ArrayStoreException) {
            return 4;
        }
        if (e instanceof IndexOutOfBoundsException) {
            return 3;
        }
        return e instanceof NegativeArraySizeException ? 5 : e instanceof ArithmeticException ? 6 : 99;
    }

    private static boolean isShelf(int i) {
        return i >= 0 && i < 8;
    }

    private static boolean isOf(Object o, int type) {
        switch (type) {
            case 1:
                return o instanceof byte[];
            case 2:
                return o instanceof int[];
            case 3:
                return o instanceof long[];
            case 4:
                return o instanceof Host[];
            case 5:
                return o instanceof Mail[];
            case 6:
                return o instanceof Host;
            default:
                return o instanceof Mail;
        }
    }

    private static int kind(Object o) {
        return o == null ? 0 : isOf(o, 6) ? 6 : isOf(o, 5) ? 5 : isOf(o, 4) ? 4 : isOf(o, 3) ? 3
                : isOf(o, 2) ? 2 : 1;
    }

    private static int crate(int shelf, int kind, int n) {
        if (!isShelf(shelf)) {
            return -1;
        }
        if (kind < 1 || kind > 5 || n > 40) {
            return -2;
        }
        shelves[shelf] = kind == 1 ? new byte[n] : kind == 2 ? new int[n] : kind == 3 ? new long[n]
                : kind == 4 ? new Host[n] : new Mail[n];
        return 1;
    }

    private static int host(int shelf, int kind) {
        if (!isShelf(shelf)) {
            return -1;
        }
        if (kind < 0 || kind > 2) {
            return -2;
        }
        shelves[shelf] = kind == 0 ? new Host(made) : kind == 1 ? new Mail(made) : new SafeMail(made);
        return made++;
    }

    private static int size(int shelf, int type) {
        if (!isShelf(shelf)) {
            return -1;
        }
        Object o = shelves[shelf];
        switch (type) {
            case 1:
                return ((byte[]) o).length;
            case 2:
                return ((int[]) o).length;
            case 3:
                return ((long[]) o).length;
            case 4:
                return ((Host[]) o).length;
            case 5:
                return ((Mail[]) o).length;
            default:
                return -2;
        }
    }

    private static long get(int shelf, int type, int i) {
        if (!isShelf(shelf) || type < 1 || type > 4) {
            return NOTHING;
        }
        Object o = shelves[shelf];
        if (type == 4) {
            Host h = ((Host[]) o)[i];
            return h == null ? -1 : h.number;
        }
        return type == 1 ? ((byte[]) o)[i] : type == 2 ? ((int[]) o)[i] : ((long[]) o)[i];
    }

    private static int set(int shelf, int type, int i, long v) {
        if (!isShelf(shelf)) {
            return -1;
        }
        Object o = shelves[shelf];
        switch (type) {
            case 1:
                ((byte[]) o)[i] = (byte) v;
                return 1;
            case 2:
                ((int[]) o)[i] = (int) v;
                return 1;
            case 3:
                ((long[]) o)[i] = v;
                return 1;
            default:
                return -2;
        }
    }

    private static int seat(int shelf, int i, int other) {
        if (!isShelf(shelf) || !isShelf(other)) {
            return -1;
        }
        Host[] ends = (Host[]) shelves[shelf];
        Host h = (Host) shelves[other];
        ends[i] = h;
        return 1;
    }

    private static int shift(int shelf, int at, int other, int to, int n) {
        if (!isShelf(shelf) || !isShelf(other)) {
            return -1;
        }
        System.arraycopy(shelves[shelf], at, shelves[other], to, n);
        return 1;
    }

    private static long part(int shelf, int i, int b) {
        if (!isShelf(shelf)) {
            return NOTHING;
        }
        long[] row = (long[]) shelves[shelf];
        return row[i] /= b;
    }

    private static int asks(int shelf, int what) {
        if (!isShelf(shelf)) {
            return -1;
        }
        if (what < 0 || what > 2) {
            return -2;
        }
        if (what == 0) {
            return ((Host) shelves[shelf]).cost();
        }
        Mail m = (Mail) shelves[shelf];
        return what == 1 ? m.stamps() : m.cost() * m.stamps();
    }

    private static int goUp(int k, int n, int shelf, int stopAt) {
        if (k == n) {
            return ((Mail) ((Host[]) shelves[shelf])[0]).stamps();
        }
        entered[k]++;
        try {
            return goUp(k + 1, n, shelf, stopAt);
        } catch (RuntimeException e) {
            if (k == stopAt) {
                return 100 + fault(e);
            }
            throw e;
        } finally {
            left[k]++;
        }
    }

    private static int climb(int shelf, int n, int stopAt) {
        if (!isShelf(shelf)) {
            return -1;
        }
        return n < 1 || n > 8 ? -2 : goUp(0, n, shelf, stopAt);
    }

    private static long due(int call, int[] a, long v) {
        try {
            switch (call) {
                case 0:
                    return crate(a[0], a[1], a[2]);
                case 1:
                    return host(a[0], a[1]);
                case 2:
                    if (!isShelf(a[0]) || a[1] != -1 && !isShelf(a[1])) {
                        return -1;
                    }
                    shelves[a[0]] = a[1] == -1 ? null : shelves[a[1]];
                    return kind(shelves[a[0]]);
                case 3:
                    return !isShelf(a[0]) ? -1 : a[1] < 0 || a[1] > 7 ? -2
                            : a[1] == 0 ? kind(shelves[a[0]]) : isOf(shelves[a[0]], a[1]) ? 1 : 0;
                case 4:
                    return size(a[0], a[1]);
                case 5:
                    return get(a[0], a[1], a[2]);
                case 6:
                    return set(a[0], a[1], a[2], v);
                case 7:
                    return seat(a[0], a[1], a[2]);
                case 8:
                    return shift(a[0], a[1], a[2], a[3], a[4]);
                case 9:
                    return part(a[0], a[1], a[2]);
                case 10:
                    return asks(a[0], a[1]);
                case 11:
                    return climb(a[0], a[1], a[2]);
                default:
                    return a[0] < 0 || a[0] > 7 ? -1 : a[1] < 0 || a[1] > 1 ? -2
                            : a[1] == 0 ? entered[a[0]] : left[a[0]];
            }
        } catch (RuntimeException e) {
            return call == 5 || call == 9 ? NOTHING : -10 - fault(e);
        }
    }

    private static long got(FlowHouse x, int call, int[] a, long v) {
        switch (call) {
            case 0:
                return x.crate(a[0], a[1], a[2]);
            case 1:
                return x.host(a[0], a[1]);
            case 2:
                return x.move(a[0], a[1]);
            case 3:
                return x.held(a[0], a[1]);
            case 4:
                return x.size(a[0], a[1]);
            case 5:
                return x.get(a[0], a[1], a[2]);
            case 6:
                return x.set(a[0], a[1], a[2], v);
            case 7:
                return x.seat(a[0], a[1], a[2]);
            case 8:
                return x.shift(a[0], a[1], a[2], a[3], a[4]);
            case 9:
                return x.part(a[0], a[1], a[2]);
            case 10:
                return x.asks(a[0], a[1]);
            case 11:
                return x.climb(a[0], a[1], a[2]);
            default:
                return x.stair(a[0], a[1]);
        }
    }

    private static void randomCalls(Random random) {
        FlowHouse x = new FlowHouse();
        shelves = new Object[8];
        made = 0;
        entered = new int[8];
        left = new int[8];
        int spread = 4 + random.nextInt(6);
        for (int i = 0; i < 300; i++) {
            int call = random.nextInt(13);
            int[] a = new int[5];
            for (int k = 0; k < 5; k++) {
                a[k] = random.nextInt(spread) - (random.nextInt(12) == 0 ? 1 : 0);
                if (random.nextInt(60) == 0) {
                    a[k] = new int[] {40, 41, Integer.MAX_VALUE, Integer.MIN_VALUE}[random.nextInt(4)];
                }
            }
            long v = random.nextInt(3) == 0 ? random.nextLong() : random.nextInt(300) - 150;
            String told = "call " + call + " of " + java.util.Arrays.toString(a);
            long due = due(call, a, v);
            Due.same(told, got(x, call, a, v), due);
        }
    }
}
