/** The document's edges of SHARES, BOUNDS, MENDED letters: Terms 5 to 7, Promises 22 to 31. */
final class EdgesOfShares {
    private static final long NOTHING = FlowHouse.NOTHING;
    private static final int UNKNOWN = FlowHouse.UNKNOWN;
    private static final int OUTSIDE = FlowHouse.OUTSIDE;
    private static final int NO = FlowHouse.NO;
    private static final Scene BUSY = Busy.SCENE;

    private EdgesOfShares() {
    }

    static void all() {
        want();
        width();
        share();
        fair();
        heldBy();
        server();
        bound();
        rests();
        mend();
        data();
        more();
        back();
        anySet();
    }

    private static void want() {
        Document.term(5, "FLOWS of a share 0 .. 9 have a WANT (0 .. 1000; -1 no end) and some of 6 TUBES");
        Document.promise(22, "FLOW i of the shares has a WANT (-1: no end) and TUBES (bits 0 to 5): 1. UNKNOWN: 0 .. 9; "
                + "OUTSIDE. (It is none before.)");
        BUSY.rangeOfOne("want's FLOW", (x, v) -> x.want(v, 5, 1), 0, 9, UNKNOWN);
        BUSY.rangeOfOne("want's WANT", (x, v) -> x.want(0, v, 1), -1, 1000, OUTSIDE);
        BUSY.rangeOfOne("want's TUBES", (x, v) -> x.want(0, 5, v), 0, 63, OUTSIDE);
        BUSY.refuses("UNKNOWN is ahead of OUTSIDE", x -> x.want(10, -2, 64), UNKNOWN);
        BUSY.refuses("the same once more", x -> x.want(0, 50, 1), 1);
        FlowHouse x = new FlowHouse();
        for (int i = 0; i < 10; i++) {
            Due.same("none before", x.heldBy(i), UNKNOWN);
            Due.same("none before", x.share(i, 0), NOTHING);
            Due.same("refused", x.want(i, -2, 0), OUTSIDE);
            Due.same("none still", x.heldBy(i), UNKNOWN);
            Due.same("want", x.want(i, 1000 - i, 0), 1);
            Due.same("now it is one", x.share(i, 0), 1000 - i);
        }
        for (int tube = 0; tube < 6; tube++) {
            FlowHouse y = new FlowHouse();
            y.width(tube, 7 + tube);
            y.want(3, -1, 1 << tube);
            Due.same("bit " + tube, y.share(3, 0), 7 + tube);
            Due.same("bit " + tube, y.heldBy(3), tube);
        }
    }

    private static void width() {
        Document.term(5, "with a WIDTH (1 .. 1000).");
        Document.promise(23, "WIDTH of a TUBE (100 at first): what it was. UNKNOWN; OUTSIDE.");
        BUSY.range("width's TUBE", (x, v) -> x.width(v, 5), 0, 5, UNKNOWN);
        BUSY.range("width's w", (x, v) -> x.width(0, v), 1, 1000, OUTSIDE);
        BUSY.refuses("UNKNOWN is ahead of OUTSIDE", x -> x.width(6, 0), UNKNOWN);
        for (int tube = 0; tube < 6; tube++) {
            FlowHouse x = new FlowHouse();
            Due.same("at first", x.width(tube, 1000), 100);
            Due.same("what it was", x.width(tube, 1), 1000);
            Due.same("what it was", x.width(tube, 1), 1);
        }
    }

    private static void share() {
        Document.promise(24, "side 0 the upper number, 1 the lower. NOTHING: it is none, side, NO.");
        BUSY.outside("share's side", (x, v) -> x.share(0, v), 0, 1, NOTHING);
        BUSY.outside("share's FLOW", (x, v) -> x.share(v, 0), 0, 9, NOTHING);
        for (int i : new int[] {1, 2, 4, 5, 6, 7, 8}) {
            BUSY.refuses("it is none " + i, x -> x.share(i, 0), NOTHING);
        }
        Scene endless = new Scene("one without end", x -> {
            x.want(0, 5, 1);
            x.want(9, -1, 0);
        });
        endless.refuses("NO", x -> x.share(0, 0), NOTHING);
        endless.refuses("NO", x -> x.share(9, 1), NOTHING);
        endless.answers("it has an end now", x -> x.want(9, 0, 0) * x.share(0, 0), 5);
        endless.answers("it has a TUBE now", x -> x.want(9, -1, 1) * x.share(9, 0), 95);
    }

    private static void fair() {
        Document.term(5, "FAIR: all rise alike from 0 on, each till its WANT, or till a TUBE of its is full; it stays then. "
                + "As fractions in lowest terms.");
        FlowHouse x = new FlowHouse();
        x.want(0, 0, 0);
        x.want(1, 0, 63);
        Due.same("0", x.share(0, 0), 0);
        Due.same("by 1", x.share(0, 1), 1);
        Due.same("0", x.share(1, 0), 0);
        Due.same("by 1", x.share(1, 1), 1);
        for (int flows = 1; flows <= 9; flows++) {
            FlowHouse y = new FlowHouse();
            y.width(2, 6);
            for (int i = 0; i < flows; i++) {
                y.want(i, -1, 4);
            }
            int by = java.math.BigInteger.valueOf(6).gcd(java.math.BigInteger.valueOf(flows)).intValue();
            Due.same("6 among " + flows, y.share(flows - 1, 0), 6 / by);
            Due.same("6 among " + flows, y.share(0, 1), flows / by);
        }
        FlowHouse z = new FlowHouse();
        for (int i = 0; i < 10; i++) {
            z.want(i, 10, 1);
        }
        Due.same("just full", z.share(9, 0), 10);
        Due.same("all have their WANT", z.heldBy(9), -1);
        z.width(0, 99);
        Due.same("1 less", z.share(9, 0), 99);
        Due.same("1 less", z.share(9, 1), 10);
        Due.same("the TUBE", z.heldBy(9), 0);
    }

    private static void heldBy() {
        Document.term(5, "HELD by: -1 its WANT, else the least TUBE that is full as it stays; a FLOW without TUBES has its WANT "
                + "(no end: not FAIR, NO).");
        Document.promise(25, "UNKNOWN: it is none; NO: it, or another one, has no end and no TUBES.");
        BUSY.outside("heldBy's FLOW", (x, v) -> x.heldBy(v), 0, 9, UNKNOWN);
        for (int i : new int[] {1, 2, 4, 5, 6, 7, 8}) {
            BUSY.refuses("it is none " + i, x -> x.heldBy(i), UNKNOWN);
        }
        Scene endless = new Scene("one without end", x -> {
            x.want(0, 5, 1);
            x.want(9, -1, 0);
        });
        endless.refuses("another one", x -> x.heldBy(0), NO);
        endless.refuses("it", x -> x.heldBy(9), NO);
        endless.refuses("UNKNOWN is ahead of NO", x -> x.heldBy(1), UNKNOWN);
        FlowHouse x = new FlowHouse();
        x.want(0, 40, 63);
        x.want(1, -1, 60);
        x.width(5, 80);
        Due.same("its WANT, though a TUBE is full as well", x.heldBy(0), -1);
        Due.same("that TUBE", x.heldBy(1), 5);
        for (int tube = 4; tube >= 2; tube--) {
            x.width(tube, 80);
            Due.same("the least TUBE", x.heldBy(1), tube);
        }
        x.width(0, 80);
        Due.same("not one of the other FLOW's", x.heldBy(1), 2);
        x.want(2, 1000, 0);
        Due.same("without TUBES", x.share(2, 0), 1000);
        Due.same("without TUBES", x.heldBy(2), -1);
        FlowHouse y = new FlowHouse();
        y.want(0, -1, 3);
        y.want(1, -1, 2);
        y.width(0, 30);
        y.width(1, 70);
        Due.same("full as it stays, not later", y.heldBy(0), 0);
        Due.same("it rises on", y.share(1, 0), 40);
        Due.same("full as it stays", y.heldBy(1), 1);
    }

    private static void server() {
        Document.term(6, "a row of SERVERS (1 to 3) each has a rate R (1 .. 500), and a delay T (0 .. 1000), less what others "
                + "(burst c, 0 .. 5000, rate q, below R) take:");
        Document.promise(26, "SERVER i (0 .. 2): 1. UNKNOWN; OUTSIDE. (R 1, else 0 at first.)");
        BUSY.rangeOfOne("server's i", (x, v) -> x.server(v, 5, 0, 0, 0), 0, 2, UNKNOWN);
        BUSY.rangeOfOne("server's R", (x, v) -> x.server(0, v, 0, 0, 0), 1, 500, OUTSIDE);
        BUSY.rangeOfOne("server's T", (x, v) -> x.server(0, 9, v, 0, 0), 0, 1000, OUTSIDE);
        BUSY.rangeOfOne("server's c", (x, v) -> x.server(0, 9, 0, v, 0), 0, 5000, OUTSIDE);
        for (int rate : new int[] {1, 2, 9, 500}) {
            BUSY.rangeOfOne("server's q", (x, v) -> x.server(0, rate, 0, 0, v), 0, rate - 1, OUTSIDE);
        }
        BUSY.refuses("UNKNOWN is ahead of OUTSIDE", x -> x.server(3, 0, -1, -1, -1), UNKNOWN);
        FlowHouse x = new FlowHouse();
        for (int n = 1; n <= 3; n++) {
            Due.same("R 1 at first", x.bound(7, 1, n, 0, 0), 7);
            Due.same("R 1 at first", x.bound(7, 2, n, 0, 0), NOTHING);
            Due.same("else 0 at first", x.bound(0, 1, n, 0, 0), 0);
            Due.same("else 0 at first", x.bound(7, 1, n, 1, 0), 7);
        }
    }

    private static void bound() {
        Document.term(6, "a FLOW lets come a burst b (0 .. 10000) and r a tick (0 .. 500);");
        Document.term(6, "NO: r is above that rate.");
        Document.promise(27, "of a FLOW over the first n SERVERS: side 0, 1. NOTHING: OUTSIDE, NO.");
        Scene fast = new Scene("fast servers", x -> {
            for (int i = 0; i < 3; i++) {
                x.server(i, 500, 10 + i, 5, 0);
            }
        });
        fast.range("bound's b", (x, v) -> x.bound(v, 1, 1, 0, 0), 0, 10000, NOTHING);
        fast.range("bound's r", (x, v) -> x.bound(1, v, 1, 0, 0), 0, 500, NOTHING);
        fast.range("bound's n", (x, v) -> x.bound(1, 1, v, 0, 0), 1, 3, NOTHING);
        fast.range("bound's what", (x, v) -> x.bound(1, 1, 1, v, 0), 0, 1, NOTHING);
        fast.range("bound's side", (x, v) -> x.bound(1, 1, 1, 0, v), 0, 1, NOTHING);
        Scene slow = new Scene("servers of rates 9, 7, 5", x -> {
            x.server(0, 19, 0, 0, 10);
            x.server(1, 7, 0, 0, 0);
            x.server(2, 6, 0, 0, 1);
        });
        int[] least = {0, 9, 7, 5};
        for (int n = 1; n <= 3; n++) {
            int servers = n;
            slow.answers("r is that rate", x -> x.bound(0, least[servers], servers, 0, 0), 0);
            slow.answers("r is that rate", x -> x.bound(0, least[servers], servers, 1, 0), 0);
            for (int what = 0; what < 2; what++) {
                int w = what;
                slow.refuses("r is above that rate", x -> x.bound(0, least[servers] + 1, servers, w, 0), NOTHING);
                slow.refuses("r is above that rate", x -> x.bound(0, least[servers] + 1, servers, w, 1), NOTHING);
            }
        }
    }

    private static void rests() {
        Document.term(6, "its rest has the rate R - q and the delay (T R + c) / (R - q). All together have the least rate of "
                + "rests, the sum of delays. WAIT at most: that delay and b by that rate; at most at once within: b and r times "
                + "that delay. Fractions.");
        FlowHouse x = new FlowHouse();
        x.server(0, 500, 1000, 5000, 499);
        Due.same("the greatest delay, and b", x.bound(10000, 1, 1, 0, 0), 505000 + 10000);
        Due.same("by 1", x.bound(10000, 1, 1, 0, 1), 1);
        Due.same("at once", x.bound(10000, 1, 1, 1, 0), 515000);
        x.server(1, 500, 1000, 5000, 1);
        x.server(2, 499, 1000, 4999, 2);
        Due.same("lowest terms", x.bound(0, 0, 3, 0, 1), 499L * 497);
        Due.same("upper", x.bound(0, 0, 3, 0, 0), 505000L * 499 * 497 + 505000L * 497 + 503999L * 499);
        Due.same("r 0", x.bound(9, 0, 3, 1, 0), 9);
        Due.same("r 0", x.bound(9, 0, 3, 1, 1), 1);
        x.server(0, 3, 0, 0, 0);
        Due.same("b by R", x.bound(10, 3, 1, 0, 0), 10);
        Due.same("b by R", x.bound(10, 3, 1, 0, 1), 3);
        Due.same("b 0", x.bound(0, 3, 1, 0, 0), 0);
        Due.same("b 0", x.bound(0, 3, 1, 0, 1), 1);
    }

    private static void mend() {
        Document.term(7, "K letters (1 .. 6) of L bytes (1 .. 8) get M more (1 .. 4):");
        Document.promise(28, "K, M, L; all letters are 0: 1. OUTSIDE.");
        BUSY.rangeOfOne("mend's K", (x, v) -> x.mend(v, 1, 1), 1, 6, OUTSIDE);
        BUSY.rangeOfOne("mend's M", (x, v) -> x.mend(1, v, 1), 1, 4, OUTSIDE);
        BUSY.rangeOfOne("mend's L", (x, v) -> x.mend(1, 1, v), 1, 8, OUTSIDE);
        FlowHouse x = BUSY.made();
        Due.same("mend", x.mend(3, 2, 4), 1);
        for (int i = 0; i < 3; i++) {
            Due.same("all are 0", x.back(7, i), 0);
        }
        Due.same("all are 0", x.more(1), 0);
    }

    private static void data() {
        Document.promise(29, "Letter i becomes the lowest L bytes of v: 1. UNKNOWN (also before mend()).");
        BUSY.outside("data's i", (x, v) -> x.data(v, 5), 0, 2, UNKNOWN);
        Scene.empty().outside("data before mend()", (x, v) -> x.data(v, 5), 0, -1, UNKNOWN);
        for (int l = 1; l <= 8; l++) {
            FlowHouse x = new FlowHouse();
            x.mend(6, 4, l);
            Due.same("data", x.data(5, -1), 1);
            Due.same("the lowest " + l, x.back(63, 5), l == 8 ? -1 : (1L << 8 * l) - 1);
            x.data(5, 0x0102030405060708L);
            Due.same("the lowest " + l, x.back(63, 5), l == 8 ? 0x0102030405060708L : 0x0102030405060708L & (1L << 8 * l) - 1);
            x.data(5, Long.MIN_VALUE + 1);
            Due.same("the lowest " + l, x.back(63, 5), l == 8 ? Long.MIN_VALUE + 1 : 1);
        }
    }

    private static void more() {
        Document.term(7, "E(i, j) is one by (i xor (j + 128)).");
        Document.promise(30, "More letter j. NOTHING.");
        BUSY.outside("more's j", (x, v) -> x.more(v), 0, 1, NOTHING);
        Scene.empty().outside("more before mend()", (x, v) -> x.more(v), 0, -1, NOTHING);
        FlowHouse x = new FlowHouse();
        x.mend(6, 4, 1);
        for (int i = 0; i < 6; i++) {
            for (int j = 0; j < 4; j++) {
                x.mend(6, 4, 1);
                x.data(i, i ^ j + 128);
                Due.same("E times its own is one", x.more(j), 1);
            }
        }
        Due.same("the last one", x.more(3) == NOTHING ? 0 : 1, 1);
        Due.same("beyond", x.more(4), NOTHING);
    }

    private static void back() {
        Document.promise(31, "Letter i, from those in a set of just K letters (bit i letter i, bit K + j more letter j, as they "
                + "are), letters that are not in it not being looked at. NOTHING: no such letter, another set.");
        BUSY.outside("back's i", (x, v) -> x.back(7, v), 0, 2, NOTHING);
        for (int set : new int[] {-1, 32, 33, 35, 7 + 32, 7 - 32, 7 | Integer.MIN_VALUE, 64 + 3, 1 << 30, Integer.MIN_VALUE}) {
            BUSY.refuses("beyond K + M: " + set, x -> x.back(set, 0), NOTHING);
        }
        for (int set = 0; set < 32; set++) {
            int s = set;
            if (Integer.bitCount(set) != 3) {
                BUSY.refuses("not just K: " + set, x -> x.back(s, 0), NOTHING);
            }
        }
        for (int set : new int[] {32 + 3, 64 + 3, 32 + 16 + 1}) {
            BUSY.answers("beyond K + M, behind another one", x -> 0 * x.back(7, 0) + x.back(set, 0), NOTHING);
        }
        FlowHouse one = new FlowHouse();
        one.mend(1, 1, 1);
        one.data(0, 9);
        for (int set = -1; set <= 16; set++) {
            Due.same("K 1, M 1: " + set, one.back(set, 0), set == 1 || set == 2 ? 9 : NOTHING);
        }
        for (int i = -1; i < 3; i++) {
            int letter = i;
            Scene.empty().refuses("before mend()", x -> x.back(0, letter), NOTHING);
            Scene.empty().refuses("before mend()", x -> x.back(1, letter), NOTHING);
        }
    }

    private static void anySet() {
        Document.term(7, "From any K of them all K come back.");
        int[][] sizes = {{1, 1, 1}, {1, 4, 8}, {6, 1, 8}, {6, 4, 8}, {3, 2, 4}};
        for (int[] d : sizes) {
            FlowHouse x = new FlowHouse();
            x.mend(d[0], d[1], d[2]);
            long mask = d[2] == 8 ? -1 : (1L << 8 * d[2]) - 1;
            for (int i = 0; i < d[0]; i++) {
                x.data(i, -7000000000000L * (i + 1));
            }
            for (int set = 0; set < 1 << d[0] + d[1]; set++) {
                for (int i = 0; i < d[0] && Integer.bitCount(set) == d[0]; i++) {
                    Due.same("set " + set, x.back(set, i), -7000000000000L * (i + 1) & mask);
                }
            }
        }
    }
}
