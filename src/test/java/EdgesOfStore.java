/** The document's edges of the STORE: Terms 11, Promises 43 to 55. */
final class EdgesOfStore {
    private static final long NOTHING = FlowHouse.NOTHING;
    private static final int UNKNOWN = FlowHouse.UNKNOWN;
    private static final int OUTSIDE = FlowHouse.OUTSIDE;
    private static final int NULL = -11, CAST = -12, INDEX = -13, STORE = -14, LENGTH = -15;
    private static final int MIN = Integer.MIN_VALUE, MAX = Integer.MAX_VALUE;
    private static final Scene BUSY = Busy.SCENE;
    /** What SHELVES hold in the busy house: BYTES, INTS, LONGS, ENDS, MAIL ENDS, a PLAIN, a MAIL, nothing. */
    private static final int PLAIN = 5, MAIL = 6, EMPTY = 7;

    private EdgesOfStore() {
    }

    static void all() {
        crate();
        host();
        fourHundred();
        move();
        held();
        size();
        get();
        set();
        seat();
        shiftFaults();
        shiftEnds();
        shiftOverlaps();
        shiftMail();
        part();
        asks();
        climb();
        climbFaults();
        stair();
    }

    private static void crate() {
        Document.term(11, "SHELVES 0 .. 7 hold nothing (0), BYTES (1), INTS (2), LONGS (3), ENDS (4: cells for hosts), MAIL ENDS "
                + "(5: cells that take MAIL hosts alone), a HOST (6).");
        Document.promise(43, "A SHELF gets n cells (0, nothing) of a kind 1 .. 5: 1. UNKNOWN; OUTSIDE: kind, n above 40. "
                + "FAULT 5.");
        BUSY.rangeOfOne("crate's SHELF", (x, v) -> x.crate(v, 1, 1), 0, 7, UNKNOWN);
        BUSY.rangeOfOne("crate's kind", (x, v) -> x.crate(0, v, 1), 1, 5, OUTSIDE);
        for (int kind = 1; kind <= 5; kind++) {
            int k = kind;
            for (int n : new int[] {41, 42, 297, MAX}) {
                BUSY.refuses("n above 40", x -> x.crate(0, k, n), OUTSIDE);
            }
            for (int n : new int[] {-1, -2, MIN}) {
                BUSY.refuses("FAULT 5", x -> x.crate(0, k, n), LENGTH);
            }
            for (int n : new int[] {0, 1, 40}) {
                BUSY.answers("n " + n, x -> x.crate(7, k, n), 1);
                BUSY.answers("n " + n, x -> x.crate(7, k, n) * 100 + x.size(7, k), 100 + n);
                BUSY.answers("beyond the end", x -> 0 * x.crate(7, k, n) + x.get(7, Math.min(k, 4), n), NOTHING);
            }
            BUSY.answers("0, nothing", x -> 0 * x.crate(7, k, 40) + x.get(7, Math.min(k, 4), 39), k < 4 ? 0 : -1);
        }
        BUSY.refuses("UNKNOWN is ahead", x -> x.crate(8, 0, -1), UNKNOWN);
        BUSY.refuses("OUTSIDE is ahead of FAULTS", x -> x.crate(0, 6, -1), OUTSIDE);
        BUSY.refuses("OUTSIDE is ahead of FAULTS", x -> x.crate(0, 0, -1), OUTSIDE);
    }

    private static void host() {
        Document.term(11, "HOSTS: 0 PLAIN, 1 MAIL, 2 SAFE MAIL (a MAIL, too), a NUMBER as they are made.");
        Document.promise(44, "A SHELF gets a new HOST of a kind 0 .. 2: its NUMBER. UNKNOWN; OUTSIDE;");
        BUSY.range("host's SHELF", (x, v) -> x.host(v, 1), 0, 7, UNKNOWN);
        BUSY.range("host's kind", (x, v) -> x.host(0, v), 0, 2, OUTSIDE);
        BUSY.refuses("UNKNOWN is ahead", x -> x.host(8, 3), UNKNOWN);
        BUSY.answers("the next NUMBER", x -> x.host(0, 0), 2);
        BUSY.answers("a refused one gets no NUMBER", x -> 0 * x.host(0, 3) + x.host(0, 2), 2);
    }

    private static void fourHundred() {
        Document.promise(44, "FULL: 400.");
        FlowHouse x = new FlowHouse();
        for (int i = 0; i < 400; i++) {
            Due.same("host", x.host(i % 8, i % 3), i);
        }
        Due.same("the last one", x.asks(7, 0), 10 + 399);
        for (int kind = 0; kind < 3; kind++) {
            Due.same("FULL", x.host(7, kind), FlowHouse.FULL);
        }
        Due.same("OUTSIDE is ahead of FULL", x.host(7, 3), OUTSIDE);
        Due.same("UNKNOWN is ahead of FULL", x.host(8, 0), UNKNOWN);
        Due.same("count(7)", x.count(7), 400);
        for (int shelf = 0; shelf < 8; shelf++) {
            int number = 392 + shelf;
            int kind = number % 3;
            int cost = kind == 0 ? 10 + number : kind == 1 ? 20 + 2 * number : 25 + 2 * number;
            Due.same("all is as it was", x.asks(shelf, 0), cost);
        }
    }

    private static void move() {
        Document.promise(45, "A SHELF gets what another one holds (from -1: nothing): its kind. UNKNOWN.");
        BUSY.range("move's SHELF", (x, v) -> x.move(v, 0), 0, 7, UNKNOWN);
        BUSY.range("move's from", (x, v) -> x.move(0, v), -1, 7, UNKNOWN);
        int[] kinds = {1, 2, 3, 4, 5, 6, 6, 0};
        for (int shelf = 0; shelf < 8; shelf++) {
            int s = shelf;
            BUSY.answers("its kind", x -> x.move(EMPTY, s), kinds[s]);
            BUSY.answers("its kind", x -> x.move(0, s), kinds[s]);
            BUSY.answers("nothing", x -> x.move(s, -1), 0);
            BUSY.answers("nothing", x -> x.move(s, EMPTY), 0);
            BUSY.answers("nothing", x -> 0 * x.move(s, -1) + x.held(s, 0), 0);
            BUSY.refuses("to itself", x -> x.move(s, s), kinds[s]);
        }
        FlowHouse x = BUSY.made();
        x.move(EMPTY, 1);
        x.set(EMPTY, 2, 0, 99);
        Due.same("what it holds, not one like it", x.get(1, 2, 0), 99);
        x.move(0, MAIL);
        Due.same("the same HOST", x.asks(0, 0), 22);
        x.move(0, PLAIN);
        Due.same("the other HOST", x.asks(0, 0), 10);
        x.move(1, -1);
        Due.same("the other one holds it still", x.get(EMPTY, 2, 0), 99);
    }

    private static void held() {
        Document.term(11, "TYPES: 1 .. 3; 4 both of ENDS; 5; 6 any HOST; 7 MAIL, SAFE MAIL.");
        Document.promise(46, "0 the kind of what a SHELF holds; 1 .. 7 whether it is of that TYPE (1, 0). UNKNOWN; OUTSIDE.");
        BUSY.outside("held's SHELF", (x, v) -> x.held(v, 0), 0, 7, UNKNOWN);
        BUSY.outside("held's what", (x, v) -> x.held(0, v), 0, 7, OUTSIDE);
        BUSY.refuses("UNKNOWN is ahead", x -> x.held(8, 8), UNKNOWN);
        int[][] due = {
            {1, 1, 0, 0, 0, 0, 0, 0}, {2, 0, 1, 0, 0, 0, 0, 0}, {3, 0, 0, 1, 0, 0, 0, 0}, {4, 0, 0, 0, 1, 0, 0, 0},
            {5, 0, 0, 0, 1, 1, 0, 0}, {6, 0, 0, 0, 0, 0, 1, 0}, {6, 0, 0, 0, 0, 0, 1, 1}, {0, 0, 0, 0, 0, 0, 0, 0}
        };
        for (int shelf = 0; shelf < 8; shelf++) {
            for (int what = 0; what < 8; what++) {
                int s = shelf;
                int w = what;
                BUSY.refuses("held(" + s + ", " + w + ")", x -> x.held(s, w), due[s][w]);
            }
        }
        BUSY.answers("SAFE MAIL is a MAIL, too", x -> 0 * x.host(0, 2) + x.held(0, 7) * 10 + x.held(0, 6), 11);
    }

    private static void size() {
        Document.term(11, "FAULTS: 1 nothing, where something must be; 2 CAST (nothing may be CAST to each); 3 an index; 4 a "
                + "store; 5 a length below 0; 6 by 0. A call with one answers -10 less it (the first as told), NOTHING where a "
                + "long is answered.");
        Document.promise(47, "How many cells, CAST to a TYPE 1 .. 5. UNKNOWN; OUTSIDE; FAULTS 2, 1.");
        BUSY.outside("size's SHELF", (x, v) -> x.size(v, 1), 0, 7, UNKNOWN);
        BUSY.outside("size's TYPE", (x, v) -> x.size(0, v), 1, 5, OUTSIDE);
        BUSY.outside("OUTSIDE is ahead of FAULTS", (x, v) -> x.size(EMPTY, v), 1, 5, OUTSIDE);
        BUSY.refuses("UNKNOWN is ahead", x -> x.size(8, 0), UNKNOWN);
        for (int type = 1; type <= 5; type++) {
            int t = type;
            BUSY.refuses("nothing", x -> x.size(EMPTY, t), NULL);
            for (int shelf = 0; shelf < 7; shelf++) {
                int s = shelf;
                boolean fits = shelf + 1 == type || shelf == 4 && type == 4;
                BUSY.refuses("size(" + s + ", " + t + ")", x -> x.size(s, t), fits ? 3 : CAST);
            }
        }
    }

    private static void get() {
        Document.promise(48, "Cell i, CAST to a TYPE 1 .. 4: a number, a HOST's NUMBER (-1: nothing). NOTHING; FAULTS 2, 1, 3.");
        BUSY.outside("get's SHELF", (x, v) -> x.get(v, 1, 0), 0, 7, NOTHING);
        BUSY.outside("get's TYPE", (x, v) -> x.get(0, v, 0), 1, 4, NOTHING);
        BUSY.refuses("TYPE 5", x -> x.get(4, 5, 0), NOTHING);
        long[] first = {0, 0, 0, 1, 1};
        long[] second = {11, 22, 33, 0, -1};
        long[] third = {0, 0, 0, -1, -1};
        for (int type = 1; type <= 4; type++) {
            int t = type;
            BUSY.refuses("nothing", x -> x.get(EMPTY, t, 0), NOTHING);
            for (int shelf = 0; shelf < 7; shelf++) {
                int s = shelf;
                if (shelf + 1 == type || shelf == 4 && type == 4) {
                    BUSY.refuses("the first cell", x -> x.get(s, t, 0), first[s]);
                    BUSY.refuses("the second cell", x -> x.get(s, t, 1), second[s]);
                    BUSY.refuses("the last cell", x -> x.get(s, t, 2), third[s]);
                    BUSY.outside("an index", (x, v) -> x.get(s, t, v), 0, 2, NOTHING);
                } else {
                    BUSY.refuses("CAST", x -> x.get(s, t, 0), NOTHING);
                }
            }
        }
    }

    private static void set() {
        Document.promise(49, "Cell i, CAST to 1, 2, 3, becomes v, cast to it: 1. UNKNOWN; OUTSIDE; FAULTS 2, 1, 3.");
        BUSY.outside("set's SHELF", (x, v) -> x.set(v, 1, 0, 5), 0, 7, UNKNOWN);
        BUSY.outside("set's TYPE", (x, v) -> x.set(0, v, 0, 5), 1, 3, OUTSIDE);
        BUSY.outside("OUTSIDE is ahead of FAULTS", (x, v) -> x.set(3, v, 99, 5), 1, 3, OUTSIDE);
        BUSY.refuses("UNKNOWN is ahead", x -> x.set(-1, 0, 0, 5), UNKNOWN);
        for (int type = 1; type <= 3; type++) {
            int t = type;
            BUSY.refuses("nothing", x -> x.set(EMPTY, t, 0, 5), NULL);
            BUSY.refuses("nothing is ahead of an index", x -> x.set(EMPTY, t, 99, 5), NULL);
            BUSY.outside("an index", (x, v) -> x.set(t - 1, t, v, 5), 0, 2, INDEX);
            for (int shelf = 0; shelf < 7; shelf++) {
                int s = shelf;
                if (shelf + 1 != type) {
                    BUSY.refuses("CAST", x -> x.set(s, t, 0, 5), CAST);
                    BUSY.refuses("CAST is ahead of an index", x -> x.set(s, t, -1, 5), CAST);
                }
            }
        }
        for (int type = 1; type <= 3; type++) {
            int t = type;
            BUSY.rangeOfOne("set's i", (x, v) -> x.set(t - 1, t, v, 5), 0, 2, INDEX);
        }
        long[] values = {0, 1, -1, 127, 128, 255, 256, -128, -129, 32768, 2147483647L, 2147483648L, 4294967295L, 4294967296L,
            -2147483648L, -2147483649L, Long.MAX_VALUE, Long.MIN_VALUE + 7};
        for (long v : values) {
            for (int cell = 0; cell < 3; cell += 2) {
                int c = cell;
                BUSY.answers("BYTES " + v, x -> 0 * x.set(0, 1, c, v) + x.get(0, 1, c), (byte) v);
                BUSY.answers("INTS " + v, x -> 0 * x.set(1, 2, c, v) + x.get(1, 2, c), (int) v);
                BUSY.answers("LONGS " + v, x -> 0 * x.set(2, 3, c, v) + x.get(2, 3, c), v);
            }
        }
    }

    private static void seat() {
        Document.promise(50, "Cell i of ENDS (CAST to 4) becomes the HOST of another SHELF (CAST to 6), or nothing: 1. UNKNOWN; "
                + "FAULTS 2 (of the first, of the other), 1, 3, 4: MAIL ENDS take MAIL alone.");
        BUSY.outside("seat's SHELF", (x, v) -> x.seat(v, 0, MAIL), 0, 7, UNKNOWN);
        BUSY.outside("seat's other", (x, v) -> x.seat(3, 0, v), 0, 7, UNKNOWN);
        for (int shelf : new int[] {0, 1, 2, PLAIN, MAIL}) {
            BUSY.refuses("2 of the first", x -> x.seat(shelf, 0, MAIL), CAST);
            BUSY.refuses("2 of the first is ahead of an index", x -> x.seat(shelf, -1, MAIL), CAST);
        }
        for (int other = 0; other < 5; other++) {
            int o = other;
            BUSY.refuses("2 of the other", x -> x.seat(3, 0, o), CAST);
            BUSY.refuses("2 of the other is ahead of an index", x -> x.seat(3, 99, o), CAST);
            BUSY.refuses("2 of the other is ahead of 1", x -> x.seat(EMPTY, 0, o), CAST);
        }
        BUSY.refuses("1", x -> x.seat(EMPTY, 0, MAIL), NULL);
        BUSY.refuses("1 is ahead of an index", x -> x.seat(EMPTY, -1, EMPTY), NULL);
        BUSY.outside("an index", (x, v) -> x.seat(3, v, MAIL), 0, 2, INDEX);
        BUSY.outside("an index is ahead of a store", (x, v) -> x.seat(4, v, PLAIN), 0, 2, INDEX);
        BUSY.refuses("MAIL ENDS take MAIL alone", x -> x.seat(4, 0, PLAIN), STORE);
        BUSY.refuses("MAIL ENDS take MAIL alone", x -> x.seat(4, 2, PLAIN), STORE);
        BUSY.answers("a MAIL", x -> x.seat(4, 2, MAIL), 1);
        BUSY.answers("a MAIL", x -> 0 * x.seat(4, 2, MAIL) + x.get(4, 4, 2), 1);
        BUSY.answers("SAFE MAIL", x -> 0 * x.host(0, 2) + x.seat(4, 2, 0), 1);
        BUSY.answers("nothing", x -> x.seat(4, 0, EMPTY), 1);
        BUSY.answers("nothing", x -> 0 * x.seat(4, 0, EMPTY) + x.get(4, 4, 0), -1);
        BUSY.answers("ENDS take a PLAIN", x -> 0 * x.seat(3, 2, PLAIN) + x.get(3, 4, 2), 0);
        BUSY.answers("the HOST, not the SHELF", x -> 0 * x.seat(3, 2, MAIL) + 0 * x.move(MAIL, -1) + x.get(3, 4, 2), 1);
    }

    private static void shiftFaults() {
        Document.promise(51, "UNKNOWN; FAULTS 1 of either; 4: one is a HOST, or they are of unlike kinds, but for two ENDS;");
        BUSY.outside("shift's SHELF", (x, v) -> x.shift(v, 0, 0, 0, 1), 0, 7, UNKNOWN);
        BUSY.outside("shift's other", (x, v) -> x.shift(0, 0, v, 0, 1), 0, 7, UNKNOWN);
        for (int shelf = 0; shelf < 8; shelf++) {
            for (int other = 0; other < 8; other++) {
                int s = shelf;
                int o = other;
                if (shelf == EMPTY || other == EMPTY) {
                    BUSY.refuses("1 of either", x -> x.shift(s, 0, o, 0, 1), NULL);
                    BUSY.refuses("1 is ahead of an index", x -> x.shift(s, -1, o, -1, -1), NULL);
                } else if (shelf >= 5 || other >= 5 || shelf != other && (shelf < 3 || other < 3)) {
                    BUSY.refuses("4: " + s + ", " + o, x -> x.shift(s, 0, o, 0, 1), STORE);
                    BUSY.refuses("4 is ahead of an index", x -> x.shift(s, -1, o, 99, -1), STORE);
                    BUSY.refuses("4, though it is none", x -> x.shift(s, 0, o, 0, 0), STORE);
                } else {
                    BUSY.answers("like kinds, or two ENDS", x -> x.shift(s, 2, o, 0, 1), 1);
                }
            }
        }
    }

    private static void shiftEnds() {
        Document.promise(51, "3: at, to, n below 0, or beyond an end;");
        int[][] beyond = {
            {-1, 0, 1}, {0, -1, 1}, {0, 0, -1}, {3, 0, 1}, {0, 3, 1}, {0, 0, 4}, {1, 0, 3}, {0, 1, 3}, {4, 0, 0}, {0, 4, 0},
            {MAX, 0, 1}, {0, MAX, 1}, {0, 0, MAX}, {MAX, MAX, MAX}, {MIN, 0, 1}, {0, MIN, 1}, {0, 0, MIN}, {1, 1, MAX},
            {-1, 0, 0}, {0, -1, 0}, {MAX, 0, 0}, {-1, -1, 2}
        };
        for (int shelf = 0; shelf < 5; shelf++) {
            int s = shelf;
            for (int[] a : beyond) {
                BUSY.refuses("an index", x -> x.shift(s, a[0], s, a[1], a[2]), INDEX);
            }
            int[][] within = {{0, 0, 0}, {3, 3, 0}, {3, 0, 0}, {0, 3, 0}, {0, 0, 3}, {2, 2, 1}};
            for (int[] a : within) {
                BUSY.refuses("within, and changes nothing", x -> x.shift(s, a[0], s, a[1], a[2]), 1);
            }
        }
        BUSY.refuses("3 is ahead of 4", x -> x.shift(3, 1, 4, 0, 3), INDEX);
        FlowHouse x = new FlowHouse();
        x.crate(0, 1, 40);
        x.crate(1, 1, 2);
        x.crate(2, 1, 0);
        Due.same("beyond the other's end", x.shift(0, 0, 1, 0, 3), INDEX);
        Due.same("just its end", x.shift(0, 38, 1, 0, 2), 1);
        Due.same("beyond its own end", x.shift(1, 0, 0, 0, 3), INDEX);
        Due.same("beyond its own end", x.shift(0, 39, 1, 0, 2), INDEX);
        Due.same("no cells", x.shift(2, 0, 2, 0, 0), 1);
        Due.same("no cells", x.shift(2, 0, 0, 40, 0), 1);
        Due.same("no cells", x.shift(2, 0, 0, 41, 0), INDEX);
        Due.same("no cells", x.shift(2, 0, 1, 0, 1), INDEX);
    }

    private static void shiftOverlaps() {
        Document.promise(51, "n cells from at on go to those of another SHELF from to on, as if by way of others: 1.");
        int[][] moves = {{0, 1, 4}, {1, 0, 4}, {0, 2, 3}, {2, 0, 3}, {0, 4, 1}, {4, 0, 1}, {0, 0, 5}};
        for (int[] a : moves) {
            for (int shelf = 0; shelf < 2; shelf++) {
                FlowHouse x = new FlowHouse();
                x.crate(0, 2, 5);
                x.move(1, 0);
                int[] row = {1, 2, 3, 4, 5};
                for (int i = 0; i < 5; i++) {
                    x.set(0, 2, i, row[i]);
                }
                int[] due = row.clone();
                for (int i = 0; i < a[2]; i++) {
                    due[a[1] + i] = row[a[0] + i];
                }
                Due.same("shift", x.shift(0, a[0], shelf, a[1], a[2]), 1);
                for (int i = 0; i < 5; i++) {
                    Due.same("cell " + i, x.get(0, 2, i), due[i]);
                }
            }
        }
    }

    private static void shiftMail() {
        Document.promise(51, "4: a HOST that is not taken: those ahead of it are there.");
        Scene ends = new Scene("ends", x -> {
            x.crate(0, 4, 5);
            x.crate(1, 5, 5);
            x.host(2, 0);
            x.host(3, 1);
            x.host(4, 2);
            x.seat(0, 0, 4);
            x.seat(0, 1, 3);
            x.seat(0, 3, 2);
            x.seat(0, 4, 3);
            for (int i = 0; i < 5; i++) {
                x.seat(1, i, 3);
            }
        });
        int[] due = {2, 1, -1, 1, 1};
        for (int i = 0; i < 5; i++) {
            int cell = i;
            ends.answers("0, 1, 2 are there", x -> 0 * x.shift(0, 0, 1, 0, 5) + x.get(1, 4, cell), due[i]);
        }
        ends.answers("4", x -> x.shift(0, 0, 1, 0, 5), STORE);
        ends.refuses("4 at once", x -> x.shift(0, 3, 1, 0, 2), STORE);
        ends.answers("nothing is taken", x -> x.shift(0, 0, 1, 0, 3), 1);
        ends.answers("up to the one that is not taken", x -> x.shift(0, 0, 1, 1, 4), STORE);
        ends.answers("it alone", x -> x.shift(0, 3, 1, 4, 1), STORE);
        ends.answers("none of them", x -> x.shift(0, 3, 1, 4, 0), 1);
        ends.answers("ENDS take each", x -> x.shift(1, 0, 0, 0, 5), 1);
        ends.answers("ENDS take each", x -> 0 * x.shift(1, 0, 0, 0, 5) + x.get(0, 4, 3), 1);
    }

    private static void part() {
        Document.promise(52, "Cell i of LONGS (CAST to 3) is divided by b: what it is. NOTHING; FAULTS 2, 1, 3, 6.");
        BUSY.outside("part's SHELF", (x, v) -> x.part(v, 0, 1), 0, 7, NOTHING);
        for (int shelf : new int[] {0, 1, 3, 4, PLAIN, MAIL, EMPTY}) {
            BUSY.refuses("2, 1", x -> x.part(shelf, 0, 1), NOTHING);
        }
        BUSY.outside("3", (x, v) -> x.part(2, v, 2), 0, 2, NOTHING);
        BUSY.refuses("6", x -> x.part(2, 1, 0), NOTHING);
        BUSY.refuses("by 1", x -> x.part(2, 1, 1), 33);
        long[][] due = {
            {7, 2, 3}, {-7, 2, -3}, {7, -2, -3}, {-7, -2, 3}, {1, 2, 0}, {-1, 2, 0}, {5, -1, -5}, {0, MIN, 0},
            {Long.MIN_VALUE + 1, -1, Long.MAX_VALUE}, {Long.MIN_VALUE, -1, Long.MIN_VALUE}, {Long.MIN_VALUE, MIN, 1L << 32},
            {Long.MAX_VALUE, MAX, 4294967298L}
        };
        for (long[] d : due) {
            BUSY.answers(d[0] + " by " + d[1], x -> 0 * x.set(2, 3, 2, d[0]) + x.part(2, 2, (int) d[1]), d[2]);
            BUSY.answers("what it is", x -> 0 * x.set(2, 3, 2, d[0]) + 0 * x.part(2, 2, (int) d[1]) + x.get(2, 3, 2), d[2]);
        }
    }

    private static void asks() {
        Document.term(11, "COST of a HOST: PLAIN 10 and NUMBER; MAIL twice that of a PLAIN one; SAFE MAIL 5 more than a MAIL. STAMPS: "
                + "of MAIL 3, of SAFE MAIL three times that, less 2. DUTY: COST times STAMPS.");
        Document.promise(53, "Of a HOST: what = 0 COST (CAST to 6), 1 STAMPS, 2 DUTY (CAST to 7). UNKNOWN; OUTSIDE; FAULTS 2, 1.");
        BUSY.outside("asks's SHELF", (x, v) -> x.asks(v, 0), 0, 7, UNKNOWN);
        BUSY.outside("asks's what", (x, v) -> x.asks(MAIL, v), 0, 2, OUTSIDE);
        BUSY.outside("OUTSIDE is ahead of FAULTS", (x, v) -> x.asks(0, v), 0, 2, OUTSIDE);
        BUSY.refuses("UNKNOWN is ahead", x -> x.asks(8, 3), UNKNOWN);
        for (int what = 0; what < 3; what++) {
            int w = what;
            BUSY.refuses("1", x -> x.asks(EMPTY, w), NULL);
            for (int shelf = 0; shelf < 5; shelf++) {
                int s = shelf;
                BUSY.refuses("2", x -> x.asks(s, w), CAST);
            }
        }
        int[] plain = {10, CAST, CAST};
        int[] mail = {22, 3, 66};
        int[] safe = {29, 7, 203};
        for (int what = 0; what < 3; what++) {
            int w = what;
            BUSY.refuses("a PLAIN", x -> x.asks(PLAIN, w), plain[w]);
            BUSY.refuses("a MAIL", x -> x.asks(MAIL, w), mail[w]);
            BUSY.answers("SAFE MAIL", x -> 0 * x.host(0, 2) + x.asks(0, w), safe[w]);
        }
    }

    private static void climb() {
        Document.promise(54, "A letter goes up STAIRS 0 .. n - 1 (1 to 8), each entered from the one before, left again, whatever "
                + "comes;");
        Document.promise(54, "UNKNOWN; OUTSIDE: n;");
        BUSY.outside("climb's SHELF", (x, v) -> x.climb(v, 1, 0), 0, 7, UNKNOWN);
        BUSY.outside("climb's n", (x, v) -> x.climb(3, v, 0), 1, 8, OUTSIDE);
        BUSY.outside("OUTSIDE is ahead of FAULTS", (x, v) -> x.climb(EMPTY, v, 0), 1, 8, OUTSIDE);
        BUSY.refuses("UNKNOWN is ahead", x -> x.climb(8, 0, 0), UNKNOWN);
        int[] shelves = {3, 4, 0, EMPTY, PLAIN};
        for (int shelf : shelves) {
            for (int n = 1; n <= 8; n++) {
                for (int stopAt = -1; stopAt <= 8; stopAt++) {
                    FlowHouse x = BUSY.made();
                    x.climb(shelf, n, stopAt);
                    for (int k = 0; k < 8; k++) {
                        int due = (k < 3 ? 1 : 0) + (k < n ? 1 : 0);
                        Due.same("entered", x.stair(k, 0), due);
                        Due.same("left, whatever comes", x.stair(k, 1), due);
                    }
                }
            }
        }
    }

    private static void climbFaults() {
        Document.promise(54, "behind the last one the STAMPS of the HOST in the first cell of a SHELF (CAST to 4; the HOST to 7) "
                + "are asked.");
        Document.promise(54, "The STAIR stopAt (if it is one of these) ends what comes there: 100 and its FAULT is the answer "
                + "then. The STAMPS. UNKNOWN; OUTSIDE: n; FAULTS 2, 1, 3 of the SHELF, 2, 1 of the HOST.");
        Scene shelves = new Scene("shelves to climb from", x -> {
            x.crate(0, 3, 2);
            x.host(1, 1);
            x.crate(3, 4, 0);
            x.crate(4, 4, 1);
            x.crate(5, 4, 1);
            x.host(6, 0);
            x.seat(5, 0, 6);
            x.crate(6, 5, 1);
            x.host(7, 2);
            x.seat(6, 0, 7);
            x.crate(7, 5, 1);
            x.seat(7, 0, 1);
        });
        int[] faults = {2, 2, 1, 3, 1, 2, 0, 0};
        int[] stamps = {0, 0, 0, 0, 0, 0, 7, 3};
        for (int shelf = 0; shelf < 8; shelf++) {
            for (int n = 1; n <= 8; n++) {
                for (int stopAt : new int[] {-1, 0, n - 1, n, 7, 8, MIN, MAX}) {
                    int s = shelf;
                    int stairs = n;
                    boolean ends = stopAt >= 0 && stopAt < n;
                    int fault = faults[s];
                    int due = fault == 0 ? stamps[s] : ends ? 100 + fault : -10 - fault;
                    shelves.answers("climb(" + s + ", " + n + ", " + stopAt + ")", x -> x.climb(s, stairs, stopAt), due);
                }
            }
        }
    }

    private static void stair() {
        Document.promise(55, "How often a STAIR was entered (0), left (1). UNKNOWN; OUTSIDE.");
        BUSY.outside("stair's k", (x, v) -> x.stair(v, 0), 0, 7, UNKNOWN);
        BUSY.outside("stair's what", (x, v) -> x.stair(0, v), 0, 1, OUTSIDE);
        BUSY.refuses("UNKNOWN is ahead", x -> x.stair(8, 2), UNKNOWN);
        BUSY.answers("entered", x -> x.stair(2, 0), 1);
        BUSY.answers("left", x -> x.stair(2, 1), 1);
        BUSY.answers("not so far up", x -> x.stair(3, 0), 0);
        FlowHouse x = BUSY.made();
        for (int i = 0; i < 300; i++) {
            x.climb(EMPTY, 8, 7);
        }
        Due.same("often", x.stair(7, 0), 300);
        Due.same("often", x.stair(7, 1), 300);
    }
}
