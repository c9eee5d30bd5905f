/** The document's edges of LINES and FLOWS: Terms 0 to 2, Promises 1 to 10 and 56. */
final class EdgesOfNets {
    private static final int UNKNOWN = FlowHouse.UNKNOWN;
    private static final int OUTSIDE = FlowHouse.OUTSIDE;
    private static final int NO = FlowHouse.NO;
    private static final int FULL = FlowHouse.FULL;
    private static final Scene BUSY = Busy.SCENE;

    private EdgesOfNets() {
    }

    static void all() {
        newObject();
        line();
        fate();
        luck();
        lineOf();
        flow();
        ways();
        rule();
        go();
        thirtyThousand();
        flowOf();
        given();
        count();
    }

    private static void newObject() {
        Document.term(0, "TICKS are counted in one NOW (0 at first).");
        Document.promise(1, "Nothing is there; NOW is 0.");
        FlowHouse x = new FlowHouse();
        for (int what = 0; what < 8; what++) {
            Due.same("count(" + what + ")", x.count(what), 0);
        }
        for (int i = -1; i <= 8; i++) {
            Due.same("lineOf(" + i + ", 0)", x.lineOf(i, 0), UNKNOWN);
            Due.same("flowOf(" + i + ", 0)", x.flowOf(i, 0), UNKNOWN);
            Due.same("given(" + i + ", 0)", x.given(i, 0), UNKNOWN);
            Due.same("worth of rule " + i, x.worth(i, 0, 1, 1, 1, 1, 1), FlowHouse.NOTHING);
            Due.same("check(" + i + ")", x.check(i), UNKNOWN);
            Due.same("letter(" + i + ")", x.letter(i), UNKNOWN);
            Due.same("octet(" + i + ", 0)", x.octet(i, 0), UNKNOWN);
            Due.same("heldBy(" + i + ")", x.heldBy(i), UNKNOWN);
            Due.same("data(" + i + ", 0)", x.data(i, 0), UNKNOWN);
            Due.same("more(" + i + ")", x.more(i), FlowHouse.NOTHING);
            Due.same("bad(" + i + ")", x.bad(i), UNKNOWN);
            Due.same("grade(" + i + ")", x.grade(i), UNKNOWN);
        }
        for (int i = 0; i < 6; i++) {
            Due.same("peak(" + i + ")", x.peak(i), NO);
            Due.same("balance(" + i + ")", x.balance(i), 0);
        }
        Due.same("balance(6)", x.balance(6), 0);
        for (int shelf = 0; shelf < 8; shelf++) {
            Due.same("held(" + shelf + ", 0)", x.held(shelf, 0), 0);
            Due.same("asks(" + shelf + ", 0)", x.asks(shelf, 0), -11);
            Due.same("stair(" + shelf + ", 0)", x.stair(shelf, 0), 0);
            Due.same("stair(" + shelf + ", 1)", x.stair(shelf, 1), 0);
        }
        Due.same("go(500)", x.go(500), 0);
        Due.same("NOW", x.count(0), 0);
    }

    private static void line() {
        Document.term(1, "LINES 0 .. 7 have a RATE (1 .. 100 bytes a tick), a TRIP (0 .. 100 ticks), "
                + "ROOM (0 .. 2000 bytes that wait), MARK (0 .. 2000).");
        Document.promise(2, "A LINE: its number. OUTSIDE; FULL: 8.");
        BUSY.range("line's RATE", (x, v) -> x.line(v, 0, 0, 0), 1, 100, OUTSIDE);
        BUSY.range("line's TRIP", (x, v) -> x.line(1, v, 0, 0), 0, 100, OUTSIDE);
        BUSY.range("line's ROOM", (x, v) -> x.line(1, 0, v, 0), 0, 2000, OUTSIDE);
        BUSY.range("line's MARK", (x, v) -> x.line(1, 0, 0, v), 0, 2000, OUTSIDE);
        FlowHouse y = new FlowHouse();
        for (int i = 0; i < 8; i++) {
            Due.same("line", y.line(1, 0, 0, 0), i);
            Due.same("count(1)", y.count(1), i + 1);
        }
        Scene eight = new Scene("eight lines", x -> {
            for (int i = 0; i < 8; i++) {
                x.line(1 + i, i, 100, 50);
            }
        });
        eight.refuses("the ninth line", x -> x.line(1, 0, 0, 0), FULL);
        eight.refuses("OUTSIDE is ahead of FULL", x -> x.line(0, 0, 0, 0), OUTSIDE);
        eight.answers("the last one", x -> x.lineOf(7, 0), 0);
        eight.answers("a way by the last one", x -> x.flow(1, 1, 1, 3, 8, 8, 0), 0);
    }

    private static void fate() {
        Document.promise(3, "The FATE (0 .. 4) of a LINE's NUMBER (0 .. 199) is told: 1. "
                + "UNKNOWN; OUTSIDE; NO: it was told, or is given already.");
        Scene one = new Scene("one line", x -> x.line(10, 0, 0, 0));
        for (int kind = 0; kind <= 4; kind++) {
            int k = kind;
            one.answers("fate 0 " + k, x -> x.fate(0, 0, k), 1);
            one.answers("fate 199 " + k, x -> x.fate(0, 199, k), 1);
        }
        BUSY.outside("fate's kind", (x, v) -> x.fate(0, 150, v), 0, 4, OUTSIDE);
        BUSY.outside("fate's NUMBER", (x, v) -> x.fate(0, v, 1), 0, 199, OUTSIDE);
        BUSY.outside("fate's LINE", (x, v) -> x.fate(v, 150, 1), 0, 2, UNKNOWN);
        BUSY.refuses("UNKNOWN is ahead of OUTSIDE", x -> x.fate(3, 200, 5), UNKNOWN);
        for (int kind = 0; kind <= 4; kind++) {
            int k = kind;
            BUSY.refuses("it was told", x -> x.fate(0, 12, k), NO);
            BUSY.refuses("it is given", x -> x.fate(0, 0, k), NO);
        }
        BUSY.refuses("OUTSIDE is ahead of NO", x -> x.fate(0, 12, 5), OUTSIDE);
        int began = BUSY.made().lineOf(0, 1);
        BUSY.refuses("the last one given", x -> x.fate(0, began - 1, 0), NO);
        if (began != 12) {
            BUSY.answers("the next one to be given", x -> x.fate(0, began, 0), 1);
        }
        Scene none = new Scene("a fate 0 that was told", x -> {
            x.line(10, 0, 0, 0);
            x.luck(0, 0, 1024);
            x.fate(0, 0, 0);
            x.flow(1, 10, 10, 3, 1, 1, 0);
        });
        none.refuses("it was told", x -> x.fate(0, 0, 1), NO);
    }

    private static void luck() {
        Document.promise(4, "SEED and LOSS of a LINE: 1. UNKNOWN; OUTSIDE: LOSS.");
        BUSY.rangeOfOne("luck's LOSS", (x, v) -> x.luck(2, 5, v), 0, 1024, OUTSIDE);
        BUSY.outside("luck's LINE", (x, v) -> x.luck(v, 5, 5), 0, 2, UNKNOWN);
        BUSY.refuses("UNKNOWN is ahead of OUTSIDE", x -> x.luck(3, 5, -1), UNKNOWN);
        for (int seed : new int[] {Integer.MIN_VALUE, -1, 0, 1, Integer.MAX_VALUE}) {
            BUSY.answers("luck's SEED " + seed, x -> x.luck(2, seed, 5), 1);
        }
    }

    private static void lineOf() {
        Document.promise(5, "7 LOST (as they began). UNKNOWN; OUTSIDE.");
        BUSY.outside("lineOf's LINE", (x, v) -> x.lineOf(v, 0), 0, 2, UNKNOWN);
        BUSY.outside("lineOf's what", (x, v) -> x.lineOf(0, v), 0, 7, OUTSIDE);
        BUSY.refuses("UNKNOWN is ahead of OUTSIDE", x -> x.lineOf(3, 8), UNKNOWN);
        FlowHouse x = new FlowHouse();
        x.line(1, 9, 0, 0);
        x.fate(0, 0, 1);
        x.flow(1, 50, 1, 3, 1, 1, 0);
        x.go(1);
        Due.same("LOST as it began, not when it is sent", x.lineOf(0, 7), 1);
        Due.same("one is being sent", x.lineOf(0, 6), 1);
        x.go(1);
        Due.same("none is being sent", x.lineOf(0, 6), 0);
    }

    private static void flow() {
        Document.term(2, "FLOWS 0 .. 5: a way there of 1 to 3 LINES, a way back of 1 to 3; UNITS 0 .. N - 1 "
                + "(N up to 200) that go there in DATA of SIZE d (1 .. 200), and ANSWERS of SIZE a (1 .. 200) "
                + "back; numbers on letters are modulo 2^W (W 3 .. 8).");
        Document.promise(6, "OUTSIDE: UNITS 1 .. 200, SIZES, W, the tick; FULL: 6.");
        int now = BUSY.made().count(0);
        Due.yes("it is late there", now > 10);
        BUSY.range("flow's UNITS", (x, v) -> x.flow(v, 9, 9, 5, 1, 2, now), 1, 200, OUTSIDE);
        BUSY.range("flow's DATA", (x, v) -> x.flow(9, v, 9, 5, 1, 2, now), 1, 200, OUTSIDE);
        BUSY.range("flow's ANSWERS", (x, v) -> x.flow(9, 9, v, 5, 1, 2, now), 1, 200, OUTSIDE);
        BUSY.range("flow's W", (x, v) -> x.flow(9, 9, 9, v, 1, 2, now), 3, 8, OUTSIDE);
        Document.promise(6, "A FLOW of so many UNITS, that begins at a tick (NOW to NOW and 1000)");
        BUSY.range("flow's tick", (x, v) -> x.flow(9, 9, 9, 5, 1, 2, v), now, now + 1000, OUTSIDE);
        Scene six = new Scene("six flows", x -> {
            x.line(1, 0, 0, 0);
            for (int i = 0; i < 6; i++) {
                Due.same("flow", x.flow(1 + i, 1, 1, 3, 1, 1, i), i);
                Due.same("count(2)", x.count(2), i + 1);
            }
        });
        six.refuses("the seventh flow", x -> x.flow(1, 1, 1, 3, 1, 1, 0), FULL);
        six.refuses("OUTSIDE is ahead of FULL", x -> x.flow(0, 1, 1, 3, 1, 1, 0), OUTSIDE);
        six.refuses("UNKNOWN is ahead of all", x -> x.flow(0, 1, 1, 3, 0, 1, 0), UNKNOWN);
    }

    private static int way(int... lines) {
        int all = 0;
        for (int i = lines.length - 1; i >= 0; i--) {
            all = 9 * all + lines[i] + 1;
        }
        return all;
    }

    private static void ways() {
        Document.promise(6, "(one or two of these from the first on, if it has fewer; LINES may be told twice): "
                + "its number. UNKNOWN: a LINE, no way;");
        int now = BUSY.made().count(0);
        BUSY.outside("the first LINE", (x, v) -> x.flow(9, 9, 9, 5, v, 1, now), 1, 729, UNKNOWN);
        BUSY.outside("the first LINE back", (x, v) -> x.flow(9, 9, 9, 5, 1, v, now), 1, 729, UNKNOWN);
        int[] noWays = {
            0, way(3), way(7), 9, 18, 27, 81, 90, 162, way(0, 3), way(3, 0), way(0, 0, 3), way(0, 3, 0),
            way(3, 0, 0), 1 + 81, 1 + 81 * 3, 729, 729 + way(0), 729 + way(0, 0, 0), 81 * 9, 6561
        };
        for (int told : noWays) {
            BUSY.refuses("no way " + told, x -> x.flow(9, 9, 9, 5, told, 1, now), UNKNOWN);
            BUSY.refuses("no way back " + told, x -> x.flow(9, 9, 9, 5, 1, told, now), UNKNOWN);
        }
        BUSY.refuses("UNKNOWN is ahead of OUTSIDE", x -> x.flow(0, 0, 0, 0, 1, 4, -1), UNKNOWN);
        int[] goodWays = {
            way(0), way(2), way(0, 0), way(0, 2), way(2, 2), way(0, 0, 0), way(0, 1, 0), way(0, 1, 2), way(2, 2, 2)
        };
        for (int told : goodWays) {
            BUSY.answers("a way " + told, x -> x.flow(9, 9, 9, 5, told, 1, now), 2);
            BUSY.answers("a way back " + told, x -> x.flow(9, 9, 9, 5, 1, told, now), 2);
        }
        FlowHouse x = new FlowHouse();
        for (int i = 0; i < 8; i++) {
            x.line(1, 0, 0, 0);
        }
        Due.same("the greatest way", x.flow(1, 1, 1, 3, way(7, 7, 7), way(0, 7, 7), 0), 0);
        x.go(500);
        Due.same("thrice there", x.lineOf(7, 0), 5);
        Due.same("once", x.lineOf(0, 0), 1);
        Due.same("ANSWERED", x.flowOf(0, 1), 1);
    }

    private static void rule() {
        Document.promise(7, "A FLOW's RULE becomes r (-1: that at first): what it was. "
                + "UNKNOWN: also a RULE without a text.");
        BUSY.outside("rule's FLOW", (x, v) -> x.rule(v, 3), 0, 1, UNKNOWN);
        BUSY.outside("rule's r", (x, v) -> x.rule(0, v), -1, 5, UNKNOWN);
        for (int r : new int[] {1, 2, 4, 5}) {
            BUSY.refuses("a RULE without a text " + r, x -> x.rule(0, r), UNKNOWN);
        }
        BUSY.answers("what it was", x -> x.rule(0, 3), 0);
        BUSY.answers("what it was at first", x -> x.rule(1, 3), -1);
        BUSY.answers("that at first again", x -> x.rule(0, -1) * 10 + x.rule(0, 0) + x.flowOf(0, 16), -1);
    }

    private static void go() {
        Document.promise(8, "Up to n EVENTS (1 .. 500) are done, NOW being their tick: how many. OUTSIDE;");
        BUSY.range("go's n", (x, v) -> x.go(v), 1, 500, OUTSIDE);
        FlowHouse x = new FlowHouse();
        x.line(1, 0, 0, 0);
        x.flow(1, 1, 1, 3, 1, 1, 1000);
        Due.same("just one", x.go(1), 1);
        Due.same("NOW is its tick", x.count(0), 1000);
        Due.same("those there are", x.go(500), 4);
        Due.same("none is left", x.go(1), 0);
        Due.same("NOW stays", x.count(0), 1002);
    }

    private static void thirtyThousand() {
        Document.promise(8, "FULL: those done so far and n are above 30000.");
        FlowHouse x = new FlowHouse();
        x.line(100, 0, 0, 0);
        x.luck(0, 0, 1024);
        x.flow(1, 1, 1, 3, 1, 1, 0);
        for (int i = 0; i < 59; i++) {
            Due.same("go(500)", x.go(500), 500);
        }
        Due.same("go(1)", x.go(1), 1);
        int[] figures = figures(x);
        Due.same("29501 and 500", x.go(500), FULL);
        Due.same("OUTSIDE is ahead of FULL", x.go(501), OUTSIDE);
        Due.same("OUTSIDE is ahead of FULL", x.go(0), OUTSIDE);
        Due.yes("all is as it was", java.util.Arrays.equals(figures, figures(x)));
        Due.same("29501 and 499", x.go(499), 499);
        Due.same("done", x.count(3), 30000);
        Due.same("30000 and 1", x.go(1), FULL);
        Due.same("done", x.count(3), 30000);
    }

    private static int[] figures(FlowHouse x) {
        int[] all = new int[34];
        for (int what = 0; what < 8; what++) {
            all[what] = x.count(what);
            all[8 + what] = x.lineOf(0, what);
        }
        for (int what = 0; what < 18; what++) {
            all[16 + what] = x.flowOf(0, what);
        }
        return all;
    }

    private static void flowOf() {
        Document.promise(9, "14 the ALARM's tick (-3: none), 15 whether it began (1, 0), 16 RULE, 17 FENCE. "
                + "UNKNOWN; OUTSIDE.");
        BUSY.outside("flowOf's FLOW", (x, v) -> x.flowOf(v, 0), 0, 1, UNKNOWN);
        BUSY.outside("flowOf's what", (x, v) -> x.flowOf(0, v), 0, 17, OUTSIDE);
        BUSY.refuses("UNKNOWN is ahead of OUTSIDE", x -> x.flowOf(2, 18), UNKNOWN);
        FlowHouse x = new FlowHouse();
        x.line(1, 0, 0, 0);
        x.flow(1, 1, 1, 3, 1, 1, 4);
        Due.same("no ALARM", x.flowOf(0, 14), -3);
        Due.same("it did not begin", x.flowOf(0, 15), 0);
        x.go(1);
        Due.same("an ALARM", x.flowOf(0, 14), 104);
        Due.same("it began", x.flowOf(0, 15), 1);
        x.go(500);
        Due.same("no ALARM", x.flowOf(0, 14), -3);
        Due.same("it began", x.flowOf(0, 15), 1);
    }

    private static void given() {
        Document.promise(10, "The UNIT that was GIVEN as the i-th. UNKNOWN.");
        int has = BUSY.made().flowOf(0, 2);
        Due.yes("some are GIVEN", has > 1);
        BUSY.outside("given's i", (x, v) -> x.given(0, v), 0, has - 1, UNKNOWN);
        BUSY.outside("given's FLOW", (x, v) -> x.given(v, 0), 0, 1, UNKNOWN);
        BUSY.answers("the first", x -> x.given(0, 0), 0);
        BUSY.answers("the last", x -> x.given(0, has - 1), has - 1);
    }

    private static void count() {
        Document.promise(56, "0 NOW, 1 LINES, 2 FLOWS, 3 EVENTS done, 4 EVENTS still to come (with the ALARMS that are set), 5 bytes of THE TAPE, 6 of THE "
                + "LETTER, 7 HOSTS made. OUTSIDE.");
        BUSY.outside("count's what", (x, v) -> x.count(v), 0, 7, OUTSIDE);
        int[] due = {-1, 3, 2, 40, -1, 20, 4, 2};
        for (int what = 0; what < 8; what++) {
            int w = what;
            if (due[w] >= 0) {
                BUSY.answers("count(" + w + ")", x -> x.count(w), due[w]);
            }
        }
    }
}
