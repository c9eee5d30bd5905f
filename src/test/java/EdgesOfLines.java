/** The edges of how LINES run: Terms 1, by runs that are worked out by hand. */
final class EdgesOfLines {
    private EdgesOfLines() {
    }

    static void all() {
        sentAtOnce();
        room();
        sixty();
        mark();
        ticks();
        fates();
        luckAtFirst();
        luckByTheBit();
        beyondTold();
        arrivals();
    }

    /** FLOWS of one UNIT each, of these SIZES, come to LINE 0 at tick 0, one by one. */
    private static FlowHouse coming(FlowHouse x, int... sizes) {
        x.line(100, 0, 2000, 2000);
        for (int size : sizes) {
            x.flow(1, size, 1, 3, 1, 2, 0);
        }
        Due.same("all began", x.go(sizes.length), sizes.length);
        Due.same("NOW", x.count(0), 0);
        return x;
    }

    private static FlowHouse house(int rate, int trip, int room, int mark) {
        FlowHouse x = new FlowHouse();
        x.line(rate, trip, room, mark);
        return x;
    }

    /** What came, began, was DROPPED, MARKED, waits, and the SIZES of these. */
    private static void line(String told, FlowHouse x, int... due) {
        for (int what = 0; what < due.length; what++) {
            Due.same(told + ": lineOf(0, " + what + ")", x.lineOf(0, what), due[what]);
        }
    }

    private static void sentAtOnce() {
        Document.term(1, "if none is being sent there, it is sent at once;");
        Document.promise(5, "Of a LINE: what = 0 LETTERS that CAME, 1 that began to be sent, 2 DROPPED, 3 MARKED, 4 that wait, 5 "
                + "their SIZES, 6 whether one is being sent (1, 0),");
        line("ROOM and MARK are not looked at", coming(house(1, 0, 0, 0), 200), 1, 1, 0, 0, 0, 0, 1, 0);
        FlowHouse x = coming(house(1, 0, 0, 0), 1);
        x.go(1);
        line("it was sent to its end", x, 1, 1, 0, 0, 0, 0, 0, 0);
    }

    private static void room() {
        Document.term(1, "else it waits, if the SIZES of those that wait and its own are ROOM at most,");
        line("ROOM 0", coming(house(1, 0, 0, 0), 1, 1), 2, 1, 1, 0, 0, 0);
        line("just ROOM", coming(house(1, 0, 1, 9), 1, 1), 2, 1, 0, 0, 1, 1);
        line("1 beyond ROOM", coming(house(1, 0, 1, 9), 1, 2), 2, 1, 1, 0, 0, 0);
        line("just ROOM", coming(house(1, 0, 30, 99), 50, 10, 20), 3, 1, 0, 0, 2, 30);
        line("1 beyond ROOM", coming(house(1, 0, 30, 99), 50, 10, 21), 3, 1, 1, 0, 1, 10);
        line("a smaller one still fits", coming(house(1, 0, 30, 99), 50, 10, 21, 20, 1), 5, 1, 2, 0, 2, 30);
        line("what is being sent takes no ROOM", coming(house(1, 0, 200, 999), 200, 200), 2, 1, 0, 0, 1, 200);
        FlowHouse x = coming(house(1, 0, 30, 99), 1, 10, 20);
        x.go(1);
        Due.same("the next one is sent", x.lineOf(0, 1), 2);
        Due.same("ROOM is free again", x.lineOf(0, 5), 20);
    }

    private static void sixty() {
        Document.term(1, "and fewer than 60 wait; else it is DROPPED.");
        for (int under = 60; under <= 63; under++) {
            FlowHouse x = house(1, 0, 2000, 2000);
            x.line(1, 0, 2000, 2000);
            x.flow(200, 1, 1, 8, 1, 2, 0);
            Due.allow(x, 0, "ack=" + under + "000;loss=1000;late=1000;");
            x.rule(0, 0);
            Due.same("up to the first ANSWER", x.go(5), 5);
            int waits = Math.min(60, under - 1);
            line(under + " come at once", x, 1 + under, 2, under - 1 - waits, 0, waits, waits);
        }
    }

    private static void mark() {
        Document.term(1, "One that waits is MARKED, if the SIZES of those that wait, itself with them, "
                + "are above MARK then.");
        line("just MARK", coming(house(1, 0, 99, 30), 50, 30), 2, 1, 0, 0, 1, 30);
        line("1 above MARK", coming(house(1, 0, 99, 30), 50, 31), 2, 1, 0, 1, 1, 31);
        line("itself with them", coming(house(1, 0, 99, 30), 50, 10, 20), 3, 1, 0, 0, 2, 30);
        line("itself with them", coming(house(1, 0, 99, 30), 50, 10, 21), 3, 1, 0, 1, 2, 31);
        line("each above it", coming(house(1, 0, 99, 30), 50, 30, 1, 1), 4, 1, 0, 2, 3, 32);
        line("MARK 0", coming(house(1, 0, 99, 0), 50, 1), 2, 1, 0, 1, 1, 1);
        line("not one that is DROPPED", coming(house(1, 0, 20, 10), 50, 21), 2, 1, 1, 0, 0, 0);
        FlowHouse x = coming(house(1, 0, 99, 30), 1, 20, 11, 1);
        line("then", x, 4, 1, 0, 2, 3, 32);
        x.go(1);
        Due.same("not those that are sent by now", x.lineOf(0, 5), 12);
        x.flow(1, 18, 1, 3, 1, 2, x.count(0));
        x.flow(1, 1, 1, 3, 1, 2, x.count(0));
        while (x.lineOf(0, 0) < 6) {
            x.go(1);
        }
        Due.same("just MARK, then 1 above it", x.lineOf(0, 3), 3);
    }

    private static void ticks() {
        Document.term(1, "Sending takes SIZE / RATE ticks, up to a whole number; then the next one that waits is sent.");
        int[][] due = {
            {1, 1, 1}, {1, 100, 1}, {99, 100, 1}, {100, 100, 1}, {101, 100, 2}, {200, 100, 2}, {200, 1, 200},
            {199, 2, 100}, {200, 3, 67}, {7, 7, 1}, {8, 7, 2}
        };
        for (int[] d : due) {
            FlowHouse x = coming(house(d[1], 0, 200, 200), d[0], d[0]);
            while (x.lineOf(0, 1) == 1) {
                x.go(1);
            }
            Due.same(d[0] + " by " + d[1] + ", then the next one", x.count(0), d[2]);
            while (x.lineOf(0, 1) == 2 && x.lineOf(0, 6) == 1) {
                x.go(1);
            }
            Due.same("twice " + d[0] + " by " + d[1], x.count(0), 2 * d[2]);
        }
        FlowHouse x = coming(house(1, 0, 200, 200), 1, 3, 2);
        int[] ends = {1, 4, 6};
        for (int i = 0; i < 3; i++) {
            int given = x.flowOf(i, 2);
            while (given == 0) {
                x.go(1);
                given = x.flowOf(i, 2);
            }
            Due.same("in their row " + i, x.count(0), ends[i]);
        }
    }

    private static void fates() {
        Document.term(1, "it gets the LINE's next NUMBER (from 0 on) and a FATE: that told for it "
                + "(0 none, 1 LOST, 2 DOUBLED, 3 LATE by 7 ticks, 4 SPOILT);");
        for (int number = 0; number < 3; number++) {
            FlowHouse x = house(1, 0, 200, 200);
            x.fate(0, number, 1);
            coming(x, 1, 1, 1);
            x.go(500);
            for (int i = 0; i < 3; i++) {
                Due.same("NUMBER " + number + " LOST", x.flowOf(i, 9) > 0 ? 1 : 0, i == number ? 1 : 0);
            }
        }
        FlowHouse x = house(1, 0, 200, 200);
        x.luck(0, 0, 1024);
        x.fate(0, 0, 0);
        coming(x, 1);
        Due.same("0: none, whatever luck says", x.lineOf(0, 7), 0);
    }

    private static long mixed(int seed, int number) {
        long x = seed + number * 2654435761L & 0xFFFFFFFFL;
        return ((x ^ x >> 15) * 739 & 0xFFFFFFFFL) >> 22;
    }

    private static void luckAtFirst() {
        Document.term(1, "below LOSS (0 .. 1024, 0 at first): LOST.");
        for (int seed = 0; seed < 3; seed++) {
            FlowHouse x = house(100, 0, 200, 200);
            x.line(100, 0, 200, 200);
            if (seed > 0) {
                x.luck(0, seed * 1000003, 0);
            }
            x.flow(200, 1, 1, 8, 1, 2, 0);
            x.go(500);
            x.go(500);
            Due.same("LOSS 0: none", x.lineOf(0, 7), 0);
            Due.same("all", x.lineOf(0, 1), 200);
            FlowHouse y = house(100, 0, 200, 200);
            y.luck(0, seed * 1000003, 1024);
            y.flow(1, 1, 1, 3, 1, 1, 0);
            y.go(500);
            Due.yes("LOSS 1024: all", y.lineOf(0, 7) == y.lineOf(0, 1) && y.lineOf(0, 7) > 200);
        }
    }

    private static void luckByTheBit() {
        Document.term(1, "if none is told: x is the sum of SEED (of the LINE; 0 at first) and NUMBER times 2654435761, "
                + "in 32 bits; x becomes (x xor x >>> 15) * 739; x >>> 22 below LOSS");
        int[] seeds = {0, 1, -1, 7, 123456789, Integer.MIN_VALUE, Integer.MAX_VALUE, -987654321};
        for (int seed : seeds) {
            for (int number : new int[] {0, 1, 2, 3, 31, 100, 199, 200, 201}) {
                int v = (int) mixed(seed, number);
                Due.same("x >>> 22 is LOSS", lost(seed, number, v), 0);
                Due.same("x >>> 22 is 1 below LOSS", lost(seed, number, v + 1), 1);
            }
        }
        FlowHouse x = house(100, 0, 200, 200);
        x.luck(0, 0, (int) mixed(0, 0) + 1);
        FlowHouse y = house(100, 0, 200, 200);
        y.luck(0, 5, 3);
        y.luck(0, 0, (int) mixed(0, 0) + 1);
        Due.same("SEED 0 at first", coming(x, 1).lineOf(0, 7), 1);
        Due.same("SEED 0 once more", coming(y, 1).lineOf(0, 7), 1);
    }

    /** Whether this NUMBER is LOST: luck comes to the LINE when the one before it has begun. */
    private static int lost(int seed, int number, int loss) {
        FlowHouse x = house(100, 0, 2000, 2000);
        x.line(100, 0, 2000, 2000);
        x.flow(200, 1, 1, 8, 1, 2, 0);
        x.flow(20, 1, 1, 8, 1, 2, 0);
        for (int i = 0; i < 200 && x.lineOf(0, 1) < number; i++) {
            x.go(x.lineOf(0, 1) + 20 < number ? 20 : 1);
        }
        x.luck(0, seed, loss);
        for (int i = 0; i < 100 && x.lineOf(0, 1) == number; i++) {
            x.go(1);
        }
        Due.same("that NUMBER began just now", x.lineOf(0, 1), number + 1);
        return x.lineOf(0, 7);
    }

    private static void beyondTold() {
        FlowHouse x = house(100, 0, 2000, 2000);
        x.line(100, 0, 2000, 2000);
        x.fate(0, 199, 1);
        x.flow(200, 1, 1, 8, 1, 2, 0);
        x.flow(20, 1, 1, 8, 1, 2, 0);
        for (int i = 0; i < 6; i++) {
            x.go(500);
        }
        Due.yes("more than 200 began", x.lineOf(0, 1) > 220);
        Due.same("the last one told is LOST, none behind it", x.lineOf(0, 7), 1);
    }

    private static void arrivals() {
        Document.term(1, "When it is sent, it ARRIVES after TRIP more ticks (LATE: and 7; DOUBLED: a second one 1 tick "
                + "behind); LOST ones don't.");
        for (int trip : new int[] {0, 1, 5, 100}) {
            Due.same("none", answeredAt(trip, 0, 1), 1 + trip);
            Due.same("just one", answeredAt(trip, 0, 2), -1);
            Due.same("LOST", answeredAt(trip, 1, 1), -1);
            Due.same("DOUBLED", answeredAt(trip, 2, 1), 1 + trip);
            Due.same("DOUBLED", answeredAt(trip, 2, 2), 2 + trip);
            Due.same("just two", answeredAt(trip, 2, 3), -1);
            Due.same("LATE", answeredAt(trip, 3, 1), 8 + trip);
            Due.same("just one", answeredAt(trip, 3, 2), -1);
            Due.same("SPOILT is not answered", answeredAt(trip, 4, 1), -1);
        }
    }

    /** The tick at which DATA with a FATE was answered for so many times, ahead of what the ALARM sends. */
    private static int answeredAt(int trip, int kind, int times) {
        FlowHouse x = house(10, trip, 0, 0);
        x.line(1, 100, 2000, 2000);
        x.fate(0, 0, kind);
        x.flow(1, 10, 200, 3, 1, 2, 0);
        int again = 100 + 1 + trip;
        while (x.flowOf(0, 10) < times && x.count(0) < again) {
            x.go(1);
        }
        return x.count(0) < again ? x.count(0) : -1;
    }
}
