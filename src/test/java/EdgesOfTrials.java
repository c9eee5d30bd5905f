/** The document's edges of the TRANSPORT, FILMS and BILLS: Terms 8 to 10, Promises 32 to 42. */
final class EdgesOfTrials {
    private static final long NOTHING = FlowHouse.NOTHING;
    private static final int UNKNOWN = FlowHouse.UNKNOWN;
    private static final int OUTSIDE = FlowHouse.OUTSIDE;
    private static final int NO = FlowHouse.NO;
    private static final int FULL = FlowHouse.FULL;
    private static final Scene BUSY = Busy.SCENE;

    private EdgesOfTrials() {
    }

    static void all() {
        tried();
        smallest();
        allThereIs();
        bad();
        piece();
        speed();
        film();
        stalls();
        most();
        grade();
        sample();
        peak();
        bill();
        leftOver();
        pay();
        balance();
    }

    private static void tried() {
        Document.term(8, "one sends UNITS 0 .. U - 1 (U 1 .. 4), one at a time, with number UNIT modulo Q (Q 1 .. 3); lines "
                + "there, back hold up to C letters each (C 1 .. 2) in row.");
        Document.promise(32, "It is TRIED: how many STATES. OUTSIDE.");
        BUSY.range("tried's U", (x, v) -> x.tried(v, 2, 1, 0), 1, 4, OUTSIDE);
        BUSY.range("tried's Q", (x, v) -> x.tried(2, v, 1, 0), 1, 3, OUTSIDE);
        BUSY.range("tried's C", (x, v) -> x.tried(2, 2, v, 0), 1, 2, OUTSIDE);
        BUSY.range("tried's K", (x, v) -> x.tried(2, 2, 1, v), 0, 1, OUTSIDE);
    }

    /**
     * One UNIT, one letter a line. STATES by (there, GIVEN, back): none; there; back and GIVEN; there and
     * GIVEN (sent again behind a lost answer, or with an answer back); and those that are over.
     */
    private static void smallest() {
        Document.term(8, "if its number is (how many are GIVEN) modulo Q, it is GIVEN (as that which was sent), else not;");
        FlowHouse x = new FlowHouse();
        Due.same("Q 2: it is not GIVEN again", x.tried(1, 2, 1, 0), 8);
        Due.same("so none is BAD", x.bad(-1), 0);
        Due.same("Q 1: it is GIVEN again", x.tried(1, 1, 1, 0), 8);
        int[] due = {0, 1, 0, 1};
        Due.same("sent, taken, sent again, taken", x.bad(-1), due.length);
        for (int i = 0; i < due.length; i++) {
            Due.same("STEP " + i, x.bad(i), due[i]);
        }
        Due.same("one alone can't go behind itself", x.tried(1, 2, 1, 1), 8);
        Document.term(8, "5 (if K is 1) the first letter there goes behind the last one there; 6 (if K is 1) the first answer "
                + "likewise.");
        Due.same("K 0", x.tried(4, 3, 2, 0), 123);
        Due.same("so none is BAD", x.bad(-1), 0);
        Due.same("K 1", x.tried(4, 3, 2, 1), 636);
        Due.same("so one is BAD", x.bad(-1), 12);
        Due.same("one UNIT on lines of two letters", x.tried(1, 2, 2, 1), 18);
        Due.same("one number on lines of two letters", x.tried(1, 1, 2, 0), 12);
        Due.same("two on their way at once", x.bad(-1), 4);
        Due.same("both are taken", x.bad(2) * 10 + x.bad(3), 11);
    }

    /** How many STATES, how long a BAD row, by U, Q, C, K: worked out by another program over lists. */
    private static void allThereIs() {
        Document.term(8, "0 send (or again) the UNIT, if the line there has room;");
        Document.term(8, "in either case its number is answered, if the line back has room; 2 the first answer is taken: if it is "
                + "the number of the UNIT, the next one is to be sent;");
        Document.term(8, "Over when all UNITS are answered (no STEPS then). BAD: a UNIT is GIVEN that is not how many were GIVEN "
                + "before: the row ends there, in no STATE.");
        Document.term(8, "(of like length that met first; STEPS that end in a STATE met before are no new ones).");
        int[][] due = {
            {8, 4}, {8, 4}, {12, 4}, {12, 4}, {8, 0}, {8, 0}, {18, 0}, {18, 0}, {8, 0}, {8, 0}, {18, 0},
            {18, 0}, {15, 4}, {15, 4}, {24, 4}, {34, 4}, {19, 0}, {19, 0}, {53, 0}, {92, 8}, {19, 0},
            {19, 0}, {53, 0}, {92, 0}, {22, 4}, {22, 4}, {36, 4}, {67, 4}, {30, 0}, {30, 0}, {88, 0},
            {248, 8}, {30, 0}, {30, 0}, {88, 0}, {293, 12}, {29, 4}, {29, 4}, {48, 4}, {111, 4}, {41, 0},
            {41, 0}, {123, 0}, {520, 8}, {41, 0}, {41, 0}, {123, 0}, {636, 12}
        };
        int row = 0;
        for (int u = 1; u <= 4; u++) {
            for (int q = 1; q <= 3; q++) {
                for (int ck = 0; ck < 4; ck++) {
                    FlowHouse x = new FlowHouse();
                    Due.same("tried " + u + " " + q + " " + ck, x.tried(u, q, 1 + ck / 2, ck % 2), due[row][0]);
                    Due.same("bad of " + u + " " + q + " " + ck, x.bad(-1), due[row][1]);
                    row++;
                }
            }
        }
        FlowHouse x = new FlowHouse();
        x.tried(4, 3, 2, 1);
        int[] steps = {0, 0, 1, 2, 0, 5, 1, 2, 0, 5, 1, 1};
        for (int i = 0; i < steps.length; i++) {
            Due.same("that met first: STEP " + i, x.bad(i), steps[i]);
        }
    }

    private static void bad() {
        Document.promise(33, "STEP i of the least BAD row found last; its length (i = -1; 0: there is none). UNKNOWN: also "
                + "before.");
        BUSY.outside("bad's i", (x, v) -> x.bad(v), -1, 3, UNKNOWN);
        BUSY.answers("its length", x -> x.bad(-1), 4);
        BUSY.answers("the last", x -> x.bad(3), 1);
        for (int i = -2; i < 3; i++) {
            int step = i;
            Scene.empty().refuses("before", x -> x.bad(step), UNKNOWN);
        }
        Scene none = new Scene("none is BAD", x -> {
            x.tried(2, 1, 1, 0);
            x.tried(2, 2, 1, 0);
        });
        none.refuses("0: there is none", x -> x.bad(-1), 0);
        none.refuses("no STEP 0", x -> x.bad(0), UNKNOWN);
        none.answers("found last", x -> 0 * x.tried(2, 1, 1, 0) + x.bad(-1), 4);
        Scene refused = new Scene("only refused", x -> x.tried(0, 1, 1, 0));
        refused.refuses("before", x -> x.bad(-1), UNKNOWN);
    }

    private static void piece() {
        Document.term(9, "A FILM of 1 to 12 pieces, 0, 1, .., in grades 0 .. 3 with SIZES and WORTHS told for each piece and "
                + "grade;");
        Document.promise(34, "SIZE (1 .. 1000), WORTH (0 .. 1000) of a piece in a grade (1, 0 at first): 1. UNKNOWN; OUTSIDE.");
        BUSY.rangeOfOne("piece's i", (x, v) -> x.piece(v, 0, 5, 5), 0, 11, UNKNOWN);
        BUSY.rangeOfOne("piece's grade", (x, v) -> x.piece(0, v, 5, 5), 0, 3, UNKNOWN);
        BUSY.rangeOfOne("piece's SIZE", (x, v) -> x.piece(0, 0, v, 5), 1, 1000, OUTSIDE);
        BUSY.rangeOfOne("piece's WORTH", (x, v) -> x.piece(0, 0, 5, v), 0, 1000, OUTSIDE);
        BUSY.refuses("UNKNOWN is ahead of OUTSIDE", x -> x.piece(12, 0, 0, -1), UNKNOWN);
        BUSY.refuses("UNKNOWN is ahead of OUTSIDE", x -> x.piece(0, 4, 0, -1), UNKNOWN);
        FlowHouse x = new FlowHouse();
        Due.same("SIZES are 1 at first", x.film(12, 1, 1, 1), 0);
        Due.same("not less", x.film(1, 0, 1, 1), NO);
        for (int i = 0; i < 12; i++) {
            for (int g = 0; g < 4; g++) {
                FlowHouse y = new FlowHouse();
                y.piece(i, g, 1000, 1000);
                y.speed(i, 1000);
                Due.same("the most", y.film(12, 1, 1, 1), 1000);
                Due.same("that grade", y.grade(i), g);
                Due.same("as many as are asked for", y.film(i + 1, 1, 1, 1), 1000);
                Due.same("one fewer", i == 0 ? 0 : y.film(i, 1, 1, 1), 0);
            }
        }
    }

    private static void speed() {
        Document.promise(35, "SPEED of a piece (1 .. 1000; 1 at first): what it was. UNKNOWN; OUTSIDE.");
        BUSY.range("speed's i", (x, v) -> x.speed(v, 5), 0, 11, UNKNOWN);
        BUSY.range("speed's v", (x, v) -> x.speed(0, v), 1, 1000, OUTSIDE);
        BUSY.refuses("UNKNOWN is ahead of OUTSIDE", x -> x.speed(12, 0), UNKNOWN);
        FlowHouse x = new FlowHouse();
        for (int i = 0; i < 12; i++) {
            Due.same("1 at first", x.speed(i, 1000 - i), 1);
            Due.same("what it was", x.speed(i, 1), 1000 - i);
        }
        Document.term(9, "a piece takes SIZE / SPEED ticks, up to a whole one, by the SPEED told for it (bytes a tick);");
        int[][] due = {{1, 1, 1}, {1, 1000, 1}, {1000, 1000, 1}, {1000, 999, 2}, {10, 5, 2}, {11, 5, 3}, {400, 1, 400}};
        for (int[] d : due) {
            FlowHouse y = new FlowHouse();
            y.speed(0, d[1]);
            for (int g = 0; g < 4; g++) {
                y.piece(0, g, d[0], 5);
            }
            Due.same("just enough", y.film(1, d[2], 400, 1), 5);
            Due.same("1 too few", y.film(1, d[2] - 1, 400, 1), NO);
        }
    }

    private static void film() {
        Document.term(9, "FULL at first is B ticks (0 .. MOST), MOST is 1 .. 400.");
        Document.promise(36, "THE FILM of the first n pieces, FULL at first b, MOST, LONG (1 .. 100): its WORTHS. OUTSIDE; "
                + "NO: each row stalls (what was found stays).");
        Scene quick = new Scene("quick pieces", x -> {
            for (int i = 0; i < 12; i++) {
                x.speed(i, 1000);
            }
            x.piece(0, 3, 9, 9);
            x.film(3, 5, 5, 5);
        });
        quick.range("film's n", (x, v) -> x.film(v, 5, 5, 5), 1, 12, OUTSIDE);
        quick.range("film's b", (x, v) -> x.film(1, v, 400, 5), 0, 400, OUTSIDE);
        quick.range("film's b", (x, v) -> x.film(1, v, 7, 5), 0, 7, OUTSIDE);
        quick.range("film's MOST", (x, v) -> x.film(1, 1, v, 5), 1, 400, OUTSIDE);
        quick.outside("film's MOST without b", (x, v) -> x.film(1, 0, v, 5), 1, 400, OUTSIDE);
        quick.range("film's LONG", (x, v) -> x.film(1, 1, 5, v), 1, 100, OUTSIDE);
        quick.refuses("NO", x -> x.film(1, 0, 5, 5), NO);
        quick.refuses("NO", x -> x.film(12, 0, 400, 100), NO);
        quick.refuses("OUTSIDE is ahead of NO", x -> x.film(13, 0, 5, 5), OUTSIDE);
        quick.answers("what was found stays", x -> 0 * x.film(1, 0, 5, 5) + x.grade(0), 3);
        quick.answers("all of it", x -> 0 * x.film(1, 0, 5, 5) + x.grade(2), 0);
    }

    private static void stalls() {
        Document.term(9, "Behind a piece: FULL less what it took; below 0 the film STALLS (not allowed); else LONG more, MOST at "
                + "most.");
        FlowHouse x = new FlowHouse();
        for (int g = 0; g < 4; g++) {
            x.piece(0, g, 5, 1);
            x.piece(1, g, 4, 1);
        }
        Due.same("just 0, then 4 more", x.film(2, 5, 9, 4), 2);
        Due.same("1 too few at first", x.film(2, 4, 9, 4), NO);
        Due.same("1 too few then", x.film(2, 5, 9, 3), NO);
        Due.same("1 kept from before", x.film(2, 6, 9, 3), 2);
        Due.same("LONG of the last one counts for nothing", x.film(1, 5, 5, 1), 1);
    }

    private static void most() {
        FlowHouse x = new FlowHouse();
        for (int g = 0; g < 4; g++) {
            x.piece(1, g, 10, 1);
        }
        Due.same("MOST at most", x.film(2, 9, 9, 100), NO);
        Due.same("just MOST", x.film(2, 10, 10, 100), 1);
        Due.same("just MOST", x.film(2, 1, 10, 100), 1);
        FlowHouse w = new FlowHouse();
        w.piece(0, 3, 4, 9);
        w.piece(1, 2, 3, 9);
        w.piece(2, 1, 5, 9);
        Due.same("5, less 4, 3 more, less 3, 3 more: not 5", w.film(3, 5, 9, 3), 18);
        Due.same("so of two the least row", w.grade(0), 0);
        Due.same("so of two the least row", w.grade(1), 2);
        Due.same("so of two the least row", w.grade(2), 1);
        Document.term(9, "The row of grades with the greatest WORTHS together; of like ones the least row.");
        FlowHouse y = new FlowHouse();
        for (int g = 0; g < 4; g++) {
            y.piece(0, g, 1 + g, g);
            y.piece(1, g, 1 + g, g);
        }
        Due.same("three more ticks for both", y.film(2, 4, 400, 1), 3);
        Due.same("of 0 3, 1 2, 2 1, 3 0 the least row", y.grade(0), 0);
        Due.same("of 0 3, 1 2, 2 1, 3 0 the least row", y.grade(1), 3);
        y.piece(0, 1, 2, 2);
        Due.same("the greatest", y.film(2, 4, 400, 1), 4);
        Due.same("not the least row of all", y.grade(0), 1);
        Due.same("not the least row of all", y.grade(1), 2);
        y.piece(1, 1, 1, 3);
        Due.same("of like ones", y.film(2, 4, 400, 1), 6);
        Due.same("the greatest WORTHS go ahead", y.grade(0), 3);
        Due.same("of like ones", y.grade(1), 1);
    }

    private static void grade() {
        Document.promise(37, "The grade of a piece in the FILM found last. UNKNOWN.");
        BUSY.outside("grade's i", (x, v) -> x.grade(v), 0, 1, UNKNOWN);
        for (int i = -1; i < 13; i++) {
            int piece = i;
            Scene.empty().refuses("none was found", x -> x.grade(piece), UNKNOWN);
        }
        BUSY.answers("found last", x -> 0 * x.film(1, 20, 30, 4) + x.grade(1), UNKNOWN);
        BUSY.answers("found last", x -> x.film(12, 30, 30, 100) < 0 ? 9 : x.grade(11), 0);
        BUSY.answers("beyond 12", x -> 0 * x.film(12, 30, 30, 100) + x.grade(12), UNKNOWN);
        Scene stalled = new Scene("only stalled", x -> x.film(2, 0, 5, 5));
        stalled.refuses("none was found", x -> x.grade(0), UNKNOWN);
    }

    private static void sample() {
        Document.term(10, "accounts 0 .. 5 get SAMPLES (0 .. 100000; 40 each).");
        Document.promise(38, "A SAMPLE of an account: how many. UNKNOWN; OUTSIDE; FULL.");
        BUSY.range("sample's account", (x, v) -> x.sample(v, 5), 0, 5, UNKNOWN);
        BUSY.range("sample's v", (x, v) -> x.sample(0, v), 0, 100000, OUTSIDE);
        BUSY.refuses("UNKNOWN is ahead of OUTSIDE", x -> x.sample(6, -1), UNKNOWN);
        Scene full = new Scene("40 samples", x -> {
            for (int i = 1; i <= 40; i++) {
                Due.same("sample", x.sample(5, 1000 + i), i);
            }
        });
        full.refuses("the 41st", x -> x.sample(5, 7), FULL);
        full.refuses("OUTSIDE is ahead of FULL", x -> x.sample(5, -1), OUTSIDE);
        full.refuses("OUTSIDE is ahead of FULL", x -> x.sample(5, 100001), OUTSIDE);
        full.answers("each has 40", x -> x.sample(4, 7), 1);
    }

    private static void peak() {
        Document.promise(39, "PEAK. UNKNOWN; NO: no SAMPLES.");
        BUSY.outside("peak's account", (x, v) -> x.peak(v), 0, 5, UNKNOWN);
        for (int account : new int[] {1, 2, 4, 5}) {
            BUSY.refuses("no SAMPLES", x -> x.peak(account), NO);
        }
        Document.term(10, "PEAK of one: its SAMPLES rising, that at place (95 n - 1) / 100 from 0.");
        FlowHouse x = new FlowHouse();
        for (int n = 1; n <= 40; n++) {
            x.sample(0, 1000 - n);
            x.sample(1, n);
            x.sample(2, 7);
            int place = (95 * n - 1) / 100;
            Due.same("falling " + n, x.peak(0), 1000 - n + place);
            Due.same("rising " + n, x.peak(1), 1 + place);
            Due.same("all alike " + n, x.peak(2), 7);
        }
        Due.same("40: the third but last", x.peak(1), 38);
        FlowHouse y = new FlowHouse();
        y.sample(0, 0);
        Due.same("0 is a SAMPLE", y.peak(0), 0);
        y.sample(0, 100000);
        Due.same("of two the greater", y.peak(0), 100000);
    }

    private static void bill() {
        Document.promise(40, "A cost (0 .. 1000000) is parted among accounts with SAMPLES, and charged: THE HOUSE then. "
                + "NOTHING: OUTSIDE; PEAKS are all 0, or there are no SAMPLES.");
        BUSY.range("bill", (x, v) -> x.bill(v), 0, 1000000, NOTHING);
        Scene.empty().refuses("no SAMPLES", x -> x.bill(5), NOTHING);
        Scene zero = new Scene("peaks of 0", x -> {
            x.sample(0, 0);
            x.sample(5, 0);
        });
        zero.refuses("PEAKS are all 0", x -> x.bill(5), NOTHING);
        zero.refuses("PEAKS are all 0", x -> x.bill(0), NOTHING);
        zero.answers("one is not", x -> 0 * x.sample(5, 1) + x.bill(5), 5);
        zero.answers("it is charged all", x -> 0 * x.sample(5, 1) + 0 * x.bill(5) + x.balance(5), -5);
        BUSY.refuses("a cost of 0", x -> x.bill(0), 1000 - 41);
        FlowHouse x = new FlowHouse();
        x.sample(4, 100000);
        x.sample(5, 1);
        Due.same("the most", x.bill(1000000), 1000000);
        Due.same("the whole part of 10^11 by 100001", x.balance(4), -999990);
        Due.same("what is left", x.balance(5), -10);
    }

    private static void leftOver() {
        Document.term(10, "A cost is parted by PEAKS: each the whole part of cost times PEAK by all; what is left goes by 1 to "
                + "those with the greatest rests, of like ones the least account first.");
        FlowHouse x = new FlowHouse();
        for (int account = 0; account < 6; account++) {
            x.sample(account, 3);
        }
        for (int cost = 0; cost < 12; cost++) {
            FlowHouse y = new FlowHouse();
            for (int account = 0; account < 6; account++) {
                y.sample(account, 3);
            }
            Due.same("THE HOUSE", y.bill(cost), cost);
            for (int account = 0; account < 6; account++) {
                Due.same("the least accounts first", y.balance(account), -(cost / 6) - (account < cost % 6 ? 1 : 0));
            }
        }
        FlowHouse z = new FlowHouse();
        z.sample(1, 1);
        z.sample(3, 2);
        z.sample(4, 0);
        z.bill(1);
        Due.same("the greatest rest", z.balance(3), -1);
        Due.same("not the least account", z.balance(1), 0);
        z.bill(2);
        Due.same("rests 2 of 3, 1 of 3", z.balance(1), -1);
        Due.same("whole parts 0, 1", z.balance(3), -2);
        Due.same("no SAMPLES", z.balance(0) + z.balance(2) + z.balance(5), 0);
        Due.same("PEAK 0", z.balance(4), 0);
    }

    private static void pay() {
        Document.promise(41, "v (1 .. 1000000) is paid in: the BALANCE. NOTHING.");
        BUSY.range("pay's v", (x, v) -> x.pay(0, v), 1, 1000000, NOTHING);
        BUSY.range("pay's account", (x, v) -> x.pay(v, 5), 0, 5, NOTHING);
        FlowHouse x = new FlowHouse();
        Due.same("the first", x.pay(0, 1), 1);
        Due.same("without SAMPLES", x.pay(5, 1000000), 1000000);
        Due.same("once more", x.pay(5, 1000000), 2000000);
        Due.same("THE HOUSE", x.balance(6), -2000001);
        FlowHouse y = new FlowHouse();
        for (int i = 0; i < 500; i++) {
            Due.same("all in 64 bits, if need be", y.pay(3, 1000000), 1000000L * (i + 1));
        }
    }

    private static void balance() {
        Document.promise(42, "BALANCE of an account (6: THE HOUSE). NOTHING.");
        Document.term(10, "BALANCES: what was charged is taken from them, what is paid in comes; all together with THE HOUSE (what "
                + "was charged less what was paid in) 0.");
        BUSY.outside("balance's account", (x, v) -> x.balance(v), 0, 6, NOTHING);
        FlowHouse x = BUSY.made();
        long all = 0;
        for (int account = 0; account <= 6; account++) {
            all += x.balance(account);
        }
        Due.same("all together", all, 0);
        Due.same("THE HOUSE", x.balance(6), 1000 - 41);
    }
}
