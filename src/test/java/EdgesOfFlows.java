/** The edges of how FLOWS run: Terms 2, by runs that are worked out by hand. */
final class EdgesOfFlows {
    private static final int SENT = 0, OPEN = 1, GIVEN = 2, W = 3, WAIT = 4, SMOOTH = 5, SWING = 6, LEAST = 7;
    private static final int AGAIN = 9, ANSWERS = 10, TWINS = 11, WRONG = 13, ALARM = 14, FENCE = 17;

    private EdgesOfFlows() {
    }

    static void all() {
        atFirst();
        allowances();
        window();
        fewer();
        alarms();
        alarmOrder();
        sameTick();
        oldData();
        heldOnce();
        spoilt();
        oldAnswers();
        twinsOrNot();
        trials();
        cutTowardZero();
        waits();
        acksAndMarks();
        fenceAhead();
        fenceReached();
        rings();
        doubledGoOn();
        nextThenArrivals();
        alarmThenComing();
        sentInAll();
        sixFlows();
        markAtFirst();
    }

    private static FlowHouse house(int lines, int rate, int trip) {
        FlowHouse x = new FlowHouse();
        for (int i = 0; i < lines; i++) {
            x.line(rate, trip, 2000, 2000);
        }
        return x;
    }

    private static FlowHouse ruled(FlowHouse x, String ack) {
        Due.allow(x, 0, "ack=" + ack + ";loss=3000;late=1000;");
        x.rule(0, 0);
        return x;
    }

    private static void goTill(FlowHouse x, int tick) {
        while (x.count(0) < tick && x.count(4) > 0) {
            x.go(1);
        }
    }

    /** Goes on, EVENT by EVENT, till a figure of FLOW 0 is this. */
    private static void goFor(FlowHouse x, int what, int figure) {
        for (int i = 0; i < 300 && x.flowOf(0, what) != figure; i++) {
            x.go(1);
        }
        Due.same("flowOf(0, " + what + ")", x.flowOf(0, what), figure);
    }

    private static void figure(String told, FlowHouse x, int what, int due) {
        Due.same(told, x.flowOf(0, what), due);
    }

    private static void atFirst() {
        Document.term(2, "It has an ALLOWANCE w (thousandths; 1000 at first; 1000 .. 64000), a WAIT (ticks; 100 at first), "
                + "SMOOTH, SWING (-1: none yet), LEAST (-1).");
        Document.promise(9, "Of a FLOW: what = 0 UNITS sent, 1 OPEN, 2 GIVEN, 3 w, 4 WAIT, 5 SMOOTH, 6 SWING, 7 LEAST,");
        FlowHouse x = house(2, 10, 5);
        x.flow(200, 1, 1, 8, 1, 2, 0);
        figure("none is sent", x, SENT, 0);
        figure("OPEN", x, OPEN, 0);
        figure("none is GIVEN", x, GIVEN, 0);
        figure("w", x, W, 1000);
        figure("WAIT", x, WAIT, 100);
        figure("SMOOTH", x, SMOOTH, -1);
        figure("SWING", x, SWING, -1);
        figure("LEAST", x, LEAST, -1);
        figure("FENCE", x, FENCE, 0);
        x.go(1);
        figure("one is sent", x, SENT, 1);
        figure("w", x, W, 1000);
    }

    /** w and how many are under way behind the first ANSWER, by what ack is worth. */
    private static void allowances() {
        Document.term(3, "The VALUE becomes w, within 1000 .. 64000;");
        int[][] due = {
            {-1, 1000}, {0, 1000}, {999, 1000}, {1000, 1000}, {1001, 1001}, {63999, 63999}, {64000, 64000},
            {64001, 64000}, {999999, 64000}
        };
        for (int[] d : due) {
            FlowHouse x = house(2, 100, 40);
            x.flow(200, 1, 1, 8, 1, 2, 0);
            ruled(x, "" + d[0]).go(5);
            figure("w of " + d[0], x, W, d[1]);
            figure("OPEN", x, OPEN, 1);
            figure("sent by w of " + d[0], x, SENT, 1 + d[1] / 1000);
        }
    }

    private static void window() {
        Document.term(2, "At any time the FLOW sends, as long as it may: the next UNIT, if it is below N, "
                + "below OPEN and 2^(W - 1),");
        for (int bits = 3; bits <= 8; bits++) {
            FlowHouse x = house(2, 100, 40);
            x.flow(200, 1, 1, bits, 1, 2, 0);
            ruled(x, "64000").go(5);
            figure("OPEN", x, OPEN, 1);
            figure("W " + bits, x, SENT, 1 + Math.min(64, 1 << bits - 1));
        }
        for (int units = 1; units <= 6; units++) {
            FlowHouse x = house(2, 100, 40);
            x.flow(units, 1, 1, 3, 1, 2, 0);
            ruled(x, "64000").go(5);
            figure("N " + units, x, SENT, Math.min(units, 5));
            x.go(500);
            figure("N " + units, x, SENT, units);
            figure("all are ANSWERED", x, OPEN, units);
            figure("all are GIVEN", x, GIVEN, units);
        }
    }

    private static void fewer() {
        Document.term(2, "and UNITS sent but not ANSWERED are fewer than w / 1000.");
        int[][] due = {{1000, 1}, {1999, 1}, {2000, 2}, {2999, 2}, {3000, 3}, {3001, 3}, {63999, 63}, {64000, 64}};
        for (int[] d : due) {
            FlowHouse x = house(2, 100, 40);
            x.flow(200, 1, 1, 8, 1, 2, 0);
            ruled(x, "" + d[0]).go(5);
            Due.same("under way by " + d[0], x.flowOf(0, SENT) - x.flowOf(0, OPEN), d[1]);
        }
        FlowHouse x = house(2, 100, 40);
        x.flow(200, 1, 1, 8, 1, 2, 0);
        ruled(x, "if(n,1000,4000)").go(5);
        figure("four are under way", x, SENT, 5);
        goFor(x, OPEN, 2);
        figure("w is less by now", x, W, 1000);
        figure("so none is sent", x, SENT, 5);
        goFor(x, OPEN, 4);
        figure("one is under way still", x, SENT, 5);
    }

    /** An ANSWER comes 13 ticks behind its DATA, the next one 2 ticks behind it. */
    private static void alarms() {
        Document.term(2, "there is an ALARM, set to WAIT ticks behind NOW: as DATA is sent and there is none (ahead of its "
                + "COMING), as OPEN rises (none, if all that were sent are ANSWERED), as it rang;");
        FlowHouse x = house(2, 10, 5);
        x.flow(3, 20, 10, 3, 1, 2, 0);
        ruled(x, "2000");
        figure("none yet", x, ALARM, -3);
        x.go(1);
        figure("DATA is sent", x, ALARM, 100);
        goFor(x, OPEN, 1);
        Due.same("NOW", x.count(0), 13);
        figure("all were ANSWERED, then two are sent", x, SENT, 3);
        figure("WAIT", x, WAIT, 37);
        figure("DATA is sent and there is none", x, ALARM, 50);
        goFor(x, OPEN, 2);
        Due.same("NOW", x.count(0), 26);
        figure("WAIT", x, WAIT, 33);
        figure("OPEN rises", x, ALARM, 59);
        goFor(x, OPEN, 3);
        figure("all that were sent are ANSWERED", x, ALARM, -3);
        Due.same("nothing is to come", x.count(4), 0);
        FlowHouse y = house(2, 10, 5);
        y.flow(3, 20, 10, 3, 1, 2, 0);
        y.luck(0, 0, 1024);
        goTill(y, 100);
        figure("as it rang", y, ALARM, 300);
        figure("it stays as DATA is sent and there is one", y, AGAIN, 1);
    }

    /** The first ANSWER comes back 99, 100 ticks behind: in the same tick the ALARM was made before. */
    private static void alarmOrder() {
        Document.term(2, "among EVENTS it was made when it was set last.");
        for (int trip = 96; trip <= 97; trip++) {
            FlowHouse x = new FlowHouse();
            x.line(10, trip, 2000, 2000);
            x.line(10, 0, 2000, 2000);
            x.flow(1, 20, 10, 3, 1, 2, 0);
            goFor(x, OPEN, 1);
            Due.same("NOW", x.count(0), trip + 3);
            figure("the ALARM rang", x, AGAIN, trip == 97 ? 1 : 0);
            figure("a TRIAL", x, SMOOTH, trip == 97 ? -1 : 99);
        }
        FlowHouse x = house(1, 10, 0);
        x.luck(0, 0, 1024);
        x.flow(1, 1, 1, 3, 1, 1, 0);
        x.go(2);
        x.flow(1, 1, 1, 3, 1, 1, 100);
        x.go(1);
        figure("the ALARM was set before", x, AGAIN, 1);
        Due.same("the FLOW begins behind it", x.flowOf(1, 15), 0);
        x.flow(1, 1, 1, 3, 1, 1, 300);
        x.go(1);
        Due.same("it begins", x.flowOf(1, 15), 1);
        while (x.flowOf(2, 15) == 0) {
            x.go(1);
        }
        Due.same("NOW", x.count(0), 300);
        figure("an ALARM that was set last before that FLOW was told", x, AGAIN, 2);
    }

    private static void sameTick() {
        Document.term(2, "EVENTS are done by their tick, of the same as they were made:");
        FlowHouse x = house(1, 10, 0);
        x.flow(1, 1, 1, 3, 1, 1, 7);
        x.flow(1, 1, 1, 3, 1, 1, 5);
        x.flow(1, 1, 1, 3, 1, 1, 7);
        x.flow(1, 1, 1, 3, 1, 1, 5);
        int[][] due = {{5, 1}, {5, 3}};
        for (int[] d : due) {
            x.go(1);
            Due.same("NOW", x.count(0), d[0]);
            Due.same("it begins", x.flowOf(d[1], 15), 1);
        }
        Due.same("not yet", x.flowOf(0, 15) + x.flowOf(2, 15), 0);
        while (x.count(0) < 7) {
            x.go(1);
        }
        FlowHouse y = house(2, 10, 5);
        y.flow(1, 20, 10, 3, 1, 2, 0);
        y.flow(1, 20, 10, 3, 1, 2, 2);
        y.go(2);
        Due.same("a FLOW told before begins ahead of what the net made", y.flowOf(1, 15), 1);
        Due.same("so its letter waits", y.lineOf(0, 4), 1);
        y.go(1);
        Due.same("then the first is sent to its end", y.lineOf(0, 1), 2);
    }

    /**
     * DATA of UNIT 0 is DOUBLED on LINE 0, the second one LATE on LINE 1: it comes at tick 10, when as
     * many of UNITS 0 to 5 as there are have been GIVEN.
     */
    private static FlowHouse oldOne(int units) {
        FlowHouse x = house(3, 100, 0);
        x.flow(units, 1, 1, 3, 1 + 9 * 2, 3, 0);
        x.fate(0, 0, 2);
        x.fate(1, 1, 3);
        return ruled(x, "8000");
    }

    private static void oldData() {
        Document.term(2, "number k is the UNIT nearest at or behind HAS less 2^(W - 1) with that number (HAS: how many are "
                + "GIVEN, in row); below 0, or N and more, it is not looked at.");
        int[][] due = {{4, 5, 0}, {5, 5, 0}, {8, 8, 0}, {9, 10, 1}};
        for (int[] d : due) {
            FlowHouse x = oldOne(d[0]);
            x.go(500);
            figure("all are GIVEN", x, GIVEN, d[0]);
            figure("ANSWERS of " + d[0], x, ANSWERS, d[1]);
            figure("WRONG of " + d[0], x, WRONG, d[2]);
        }
        FlowHouse x = oldOne(4);
        goTill(x, 10);
        figure("HAS less 4 is 0", x, GIVEN, 4);
        figure("so UNIT 0 is looked at", x, ANSWERS, 5);
        FlowHouse y = oldOne(5);
        goTill(y, 10);
        figure("HAS less 4 is 1", y, GIVEN, 5);
        figure("so it would be UNIT 8, N and more", y, ANSWERS, 5);
    }

    private static void heldOnce() {
        Document.term(2, "If it is HAS or behind, it is held, if none with that number of UNITS is; then all that are held in "
                + "row from HAS on are GIVEN (WRONG, if it was another UNIT that was sent). Each DATA that is looked at is "
                + "answered: an ANSWER with HAS modulo 2^W, MARKED if it was.");
        FlowHouse x = oldOne(9);
        goTill(x, 10);
        figure("UNIT 0 is held as UNIT 8", x, WRONG, 0);
        x.go(500);
        figure("it is GIVEN, the right one is not", x, WRONG, 1);
        for (int i = 0; i < 9; i++) {
            Due.same("given(0, " + i + ")", x.given(0, i), i == 8 ? 0 : i);
        }
        FlowHouse y = house(2, 10, 5);
        y.flow(20, 10, 1, 3, 1, 2, 0);
        y.fate(0, 1, 1);
        ruled(y, "4000");
        goFor(y, ANSWERS, 4);
        figure("UNITS 2 to 4 are held", y, GIVEN, 1);
        goFor(y, OPEN, 5);
        figure("all in row are GIVEN at once", y, GIVEN, 5);
        y.go(500);
        figure("HAS modulo 8, over and over", y, OPEN, 20);
        figure("none WRONG", y, WRONG, 0);
    }

    private static void spoilt() {
        Document.term(2, "SPOILT ones are not looked at (either way). A LETTER that was MARKED, SPOILT on a LINE is so to its "
                + "way's end;");
        FlowHouse x = house(4, 10, 5);
        x.fate(0, 0, 4);
        x.flow(1, 10, 10, 3, 1 + 9 * 2, 3 + 9 * 4, 0);
        goTill(x, 99);
        Due.same("it goes on by LINE 1", x.lineOf(1, 1), 1);
        figure("it is not answered", x, ANSWERS, 0);
        FlowHouse y = house(4, 10, 5);
        y.fate(2, 0, 4);
        y.flow(1, 10, 10, 3, 1 + 9 * 2, 3 + 9 * 4, 0);
        goTill(y, 99);
        Due.same("it goes on by LINE 3", y.lineOf(3, 1), 1);
        figure("it is answered", y, ANSWERS, 1);
        figure("the ANSWER is not looked at", y, OPEN, 0);
    }

    /**
     * The ANSWER to UNIT 0 is DOUBLED on LINE 1, the second one LATE on LINE 2: it comes at tick 11,
     * when OPEN is 6, so its number 1 is UNIT 9.
     */
    private static FlowHouse oldAnswer(int units) {
        FlowHouse x = house(3, 100, 0);
        x.flow(units, 1, 1, 3, 1, 2 + 9 * 3, 0);
        x.fate(1, 0, 2);
        x.fate(2, 1, 3);
        return ruled(x, "8000");
    }

    private static void oldAnswers() {
        Document.term(2, "its number is the least UNIT at or behind OPEN with that number (OPEN and 2^W - 1 at most); if it is "
                + "above how many were sent, it is not looked at. If it is above OPEN: UNITS from OPEN to it are ANSWERED:");
        for (int units = 8; units <= 9; units++) {
            FlowHouse x = oldAnswer(units);
            goFor(x, OPEN, 6);
            Due.same("NOW", x.count(0), 10);
            figure("all are sent", x, SENT, units);
            while (x.count(0) < 11) {
                x.go(1);
            }
            int most = x.flowOf(0, OPEN);
            for (int i = 0; i < 20 && x.count(0) == 11; i++) {
                most = Math.max(most, x.flowOf(0, OPEN));
                x.go(1);
            }
            Due.same("UNIT 9 of " + units + " sent", most, units == 9 ? 9 : 7);
            figure("no twin", x, TWINS, 0);
            x.go(500);
            figure("all are ANSWERED", x, OPEN, units);
        }
        FlowHouse y = house(2, 10, 5);
        y.flow(20, 10, 10, 3, 1, 2, 0);
        for (int i = 1; i <= 3; i++) {
            y.fate(1, i, 1);
        }
        ruled(y, "4000");
        goFor(y, OPEN, 5);
        figure("four at once, by the last one's number", y, TWINS, 0);
    }

    private static void twinsOrNot() {
        Document.term(2, "If it is OPEN, and not all that were sent are ANSWERED: TWINS is 1 more;");
        FlowHouse x = oldAnswer(1);
        x.go(500);
        figure("all that were sent are ANSWERED", x, TWINS, 0);
        FlowHouse y = oldAnswer(2);
        y.fate(0, 1, 1);
        goTill(y, 11);
        figure("UNIT 1 was LOST", y, OPEN, 1);
        figure("a twin", y, TWINS, 1);
    }

    private static void trials() {
        Document.term(2, "of the last of these, if it was sent once, the time since it was sent is a TRIAL t: LEAST is the "
                + "least TRIAL; SMOOTH is t and SWING t / 2, if it is the first;");
        FlowHouse x = house(2, 10, 5);
        x.flow(2, 20, 10, 3, 1, 2, 0);
        x.fate(0, 0, 1);
        goFor(x, OPEN, 1);
        Due.same("NOW", x.count(0), 113);
        figure("it was sent twice: no TRIAL", x, SMOOTH, -1);
        figure("no TRIAL", x, SWING, -1);
        figure("no TRIAL", x, LEAST, -1);
        figure("WAIT stays doubled", x, WAIT, 200);
        goFor(x, OPEN, 2);
        figure("sent once", x, SMOOTH, 13);
        figure("13 / 2", x, SWING, 6);
        figure("LEAST", x, LEAST, 13);
        figure("WAIT", x, WAIT, 37);
        FlowHouse y = house(2, 10, 5);
        y.flow(5, 10, 10, 3, 1, 2, 0);
        y.fate(0, 1, 1);
        ruled(y, "4000");
        goFor(y, OPEN, 5);
        figure("OPEN was sent again, the last of those once", y, AGAIN, 1);
        Due.yes("so there is a TRIAL", y.flowOf(0, SMOOTH) > 12);
        figure("LEAST stays", y, LEAST, 12);
    }

    /** TRIALS of 26 (LATE both ways), then 12, 12: 26 less 14 / 8 is 25, less 13 / 8 is 24. */
    private static void cutTowardZero() {
        Document.term(0, "x / y is cut toward 0.");
        Document.term(2, "else SWING becomes SWING and (the difference of SMOOTH and t, without sign, less SWING) / 4, SMOOTH "
                + "becomes SMOOTH and (t - SMOOTH) / 8;");
        FlowHouse x = house(2, 10, 5);
        x.flow(8, 10, 1, 3, 1, 2, 0);
        x.fate(0, 0, 3);
        x.fate(1, 0, 3);
        ruled(x, "1000");
        int[][] due = {{26, 13}, {25, 13}, {24, 13}, {23, 13}, {22, 13}, {21, 13}, {20, 12}, {19, 11}};
        for (int i = 0; i < due.length; i++) {
            goFor(x, OPEN, i + 1);
            figure("SMOOTH " + i, x, SMOOTH, due[i][0]);
            figure("SWING " + i, x, SWING, due[i][1]);
            figure("WAIT " + i, x, WAIT, due[i][0] + 4 * due[i][1]);
            figure("LEAST " + i, x, LEAST, i == 0 ? 26 : 12);
        }
        FlowHouse y = house(2, 10, 5);
        y.flow(3, 10, 1, 3, 1, 2, 0);
        y.fate(0, 0, 3);
        ruled(y, "1000");
        goFor(y, OPEN, 1);
        figure("19", y, SMOOTH, 19);
        goFor(y, OPEN, 2);
        figure("19 less 7 / 8", y, SMOOTH, 19);
        figure("9 less 2 / 4", y, SWING, 9);
    }

    /** WAIT is 100 till the first TRIAL: one of more than that needs an ALARM that rang before. */
    private static void waits() {
        Document.term(2, "WAIT is SMOOTH and the greater of 4 SWING and 2, from 4 to 400.");
        int[][] due = {{133, 397}, {134, 400}, {135, 400}, {150, 400}};
        for (int[] d : due) {
            FlowHouse x = new FlowHouse();
            x.line(10, 100, 2000, 2000);
            x.line(10, d[0] - 103, 2000, 2000);
            x.flow(2, 20, 10, 3, 1, 2, 0);
            ruled(x, "1000");
            goFor(x, OPEN, 1);
            figure("WAIT was doubled", x, WAIT, 200);
            goFor(x, OPEN, 2);
            figure("TRIAL", x, SMOOTH, d[0]);
            figure("WAIT of " + d[0], x, WAIT, d[1]);
        }
        FlowHouse y = house(2, 100, 0);
        y.flow(1, 1, 1, 3, 1, 2, 0);
        y.go(500);
        figure("the least TRIAL there can be", y, LEAST, 2);
        figure("the least WAIT there can be", y, WAIT, 6);
    }

    private static void acksAndMarks() {
        Document.term(2, "Then, OPEN having risen, the rule's ack, as often as UNITS were ANSWERED (or mark, once, if the ANSWER "
                + "is MARKED).");
        for (int mark = 0; mark < 2; mark++) {
            FlowHouse x = new FlowHouse();
            x.line(10, 5, 2000, 2000);
            x.line(1, 5, 2000, mark == 1 ? 0 : 2000);
            x.flow(20, 10, 3, 4, 1, 2, 0);
            Due.allow(x, 0, "ack=w+3000+n;loss=3000;late=1000;mark=w+500;");
            x.rule(0, 0);
            x.fate(1, 1, 1);
            x.fate(1, 2, 1);
            goFor(x, OPEN, 1);
            figure("once: none was under way", x, W, 4000);
            goFor(x, OPEN, 4);
            figure("thrice ack, or mark once", x, W, mark == 1 ? 4500 : 4000 + 3 * 3001);
        }
    }

    /** UNITS 1 and 4 are LOST: at UNIT 4 OPEN is not yet FENCE, so it is sent again without loss. */
    private static void fenceAhead() {
        Document.term(2, "as it becomes 3: OPEN is sent again, and, if OPEN is FENCE (0 at first) or more, the rule's loss is "
                + "done, and FENCE becomes how many UNITS were sent.");
        FlowHouse x = house(2, 10, 5);
        x.flow(60, 10, 1, 8, 1, 2, 0);
        x.fate(0, 1, 1);
        x.fate(0, 4, 1);
        ruled(x, "20000");
        goFor(x, OPEN, 1);
        figure("20 are under way", x, SENT, 21);
        goFor(x, TWINS, 2);
        figure("not as it becomes 2", x, AGAIN, 0);
        figure("FENCE at first", x, FENCE, 0);
        goFor(x, TWINS, 3);
        figure("OPEN is sent again", x, AGAIN, 1);
        figure("loss", x, W, 3000);
        figure("FENCE", x, FENCE, 21);
        goFor(x, TWINS, 4);
        figure("not as it becomes 4", x, AGAIN, 1);
        goFor(x, OPEN, 4);
        figure("TWINS", x, TWINS, 0);
        figure("acks", x, W, 20000);
        figure("three more", x, SENT, 24);
        goFor(x, TWINS, 3);
        figure("OPEN is below FENCE", x, OPEN, 4);
        figure("it is sent again", x, AGAIN, 2);
        figure("without loss", x, W, 20000);
        figure("FENCE stays", x, FENCE, 21);
    }

    /** UNITS 1 and 21 are LOST: UNIT 21 is FENCE itself. */
    private static void fenceReached() {
        FlowHouse x = house(2, 10, 5);
        x.flow(60, 10, 1, 8, 1, 2, 0);
        x.fate(0, 1, 1);
        x.fate(0, 22, 1);
        ruled(x, "20000");
        goFor(x, OPEN, 21);
        figure("FENCE", x, FENCE, 21);
        figure("20 more", x, SENT, 41);
        goFor(x, TWINS, 3);
        figure("OPEN is FENCE", x, OPEN, 21);
        figure("it is sent again", x, AGAIN, 2);
        figure("loss", x, W, 3000);
        figure("FENCE", x, FENCE, 41);
    }

    /** UNIT 1 is LOST, and two twins come; then the ALARM. */
    private static void rings() {
        Document.term(2, "An ALARM: WAIT is doubled (400 at most), the rule's late is done, FENCE becomes how many UNITS were "
                + "sent, TWINS 0, the ALARM is set anew, OPEN is sent again; then the FLOW sends as it may.");
        FlowHouse x = house(2, 10, 5);
        x.flow(60, 10, 1, 8, 1, 2, 0);
        x.fate(0, 1, 1);
        Due.allow(x, 0, "ack=3000;loss=2000;late=5000;");
        x.rule(0, 0);
        goFor(x, TWINS, 2);
        int alarm = x.flowOf(0, ALARM);
        figure("WAIT", x, WAIT, 36);
        Due.same("the ALARM", alarm, 12 + 36);
        goFor(x, AGAIN, 1);
        Due.same("NOW", x.count(0), alarm);
        figure("WAIT", x, WAIT, 72);
        figure("late", x, W, 5000);
        figure("FENCE: ahead of those that are sent then", x, FENCE, 4);
        figure("TWINS", x, TWINS, 0);
        figure("the ALARM", x, ALARM, alarm + 72);
        figure("two more", x, SENT, 6);
        FlowHouse y = house(1, 10, 0);
        y.luck(0, 0, 1024);
        y.flow(1, 1, 1, 3, 1, 1, 0);
        int[] ticks = {100, 300, 700, 1100, 1500};
        int[] waits = {200, 400, 400, 400, 400};
        for (int i = 0; i < ticks.length; i++) {
            goFor(y, AGAIN, i + 1);
            Due.same("it rings at", y.count(0), ticks[i]);
            figure("400 at most", y, WAIT, waits[i]);
        }
    }

    private static void doubledGoOn() {
        Document.term(2, "both of a DOUBLED one go on, each with its own NUMBERS, FATES on the LINES behind.");
        for (int lost = 0; lost <= 2; lost++) {
            FlowHouse x = house(3, 10, 5);
            x.fate(0, 0, 2);
            x.fate(1, lost, 1);
            x.flow(1, 10, 10, 3, 1 + 9 * 2, 3, 0);
            goTill(x, 20);
            Due.same("came to LINE 1", x.lineOf(1, 1), 2);
            Due.same("LOST there", x.lineOf(1, 7), lost < 2 ? 1 : 0);
            figure("answered", x, ANSWERS, lost < 2 ? 1 : 2);
        }
    }

    /** The first is sent at 2, ARRIVES at 4; the next one, sent from 2 on, is sent at 4, too: made before. */
    private static void nextThenArrivals() {
        Document.term(2, "What one EVENT brings about at once is done in it: the LINE's next letter is sent, then the ARRIVALS are "
                + "made;");
        FlowHouse x = house(2, 10, 2);
        x.flow(1, 20, 10, 3, 1, 2, 0);
        x.flow(1, 20, 10, 3, 1, 2, 0);
        x.go(3);
        Due.same("the first is sent, the next one begins", x.count(0) * 10 + x.lineOf(0, 1), 22);
        x.go(1);
        Due.same("the next one is sent", x.count(0) * 10 + x.lineOf(0, 6), 40);
        figure("not yet", x, GIVEN, 0);
        x.go(1);
        Due.same("NOW", x.count(0), 4);
        figure("the first ARRIVES", x, GIVEN, 1);
        Due.same("its ANSWER COMES at once", x.lineOf(1, 1), 1);
    }

    /** A letter of 100 ticks ends as the ALARM rings, which was set ahead of its COMING. */
    private static void alarmThenComing() {
        Document.term(2, "GIVEN, then the ANSWER COMES; UNITS are ANSWERED, the TRIAL, the rule, the ALARM, then the FLOW sends as "
                + "it may.)");
        FlowHouse x = house(2, 1, 0);
        x.flow(1, 100, 1, 3, 1, 2, 0);
        x.go(2);
        Due.same("NOW", x.count(0), 100);
        figure("it rang", x, AGAIN, 1);
        Due.same("the first is being sent still", x.lineOf(0, 1), 1);
        Due.same("so the second waits", x.lineOf(0, 4), 1);
        FlowHouse y = house(2, 1, 0);
        y.flow(2, 10, 1, 3, 1, 2, 0);
        y.flow(1, 11, 1, 3, 1, 2, 11);
        ruled(y, "if(n-0,9000,1000+t*100+s*10+m)");
        goFor(y, OPEN, 1);
        figure("the rule knows the TRIAL, and that none is under way", y, W, 1000 + 11 * 111);
        figure("then UNIT 1 is sent", y, SENT, 2);
        figure("the ALARM knows the TRIAL, too", y, ALARM, 11 + 11 + 4 * 5);
    }

    private static void sentInAll() {
        Document.promise(9, "8 DATA sent in all, 9 of these again, 10 ANSWERS sent, 11 TWINS, 12 FAILS, 13 WRONG,");
        FlowHouse x = house(2, 10, 5);
        x.flow(1, 10, 10, 3, 1, 2, 0);
        x.fate(0, 0, 1);
        x.fate(1, 0, 1);
        x.go(1);
        int[][] due = {{0, 1, 0, 0}, {100, 2, 1, 0}, {106, 2, 1, 1}, {300, 3, 2, 1}, {306, 3, 2, 2}};
        for (int[] d : due) {
            goTill(x, d[0]);
            Due.same("NOW", x.count(0), d[0]);
            figure("DATA in all at " + d[0], x, 8, d[1]);
            figure("of these again at " + d[0], x, AGAIN, d[2]);
            figure("ANSWERS at " + d[0], x, ANSWERS, d[3]);
        }
    }

    private static void sixFlows() {
        FlowHouse x = house(2, 10, 5);
        for (int i = 0; i < 6; i++) {
            x.flow(10 + i, 10, 1, 4, 1, 2, 0);
        }
        x.go(500);
        x.go(500);
        for (int i = 0; i < 6; i++) {
            Due.same("each has its own UNITS", x.flowOf(i, GIVEN), 10 + i);
            Due.same("each has its own ANSWERS", x.flowOf(i, OPEN), 10 + i);
            Due.same("the last one", x.given(i, 9 + i), 9 + i);
        }
        Due.same("nothing is to come", x.count(4), 0);
    }

    /** RULE -1 has no mark: it is as loss, w / 2. The ANSWERS wait on LINE 1, behind a long one. */
    private static void markAtFirst() {
        FlowHouse x = new FlowHouse();
        x.line(100, 0, 2000, 2000);
        x.line(1, 0, 2000, 10);
        x.flow(60, 1, 10, 8, 1, 2, 0);
        int w = 1000;
        int marks = 0;
        for (int i = 0; i < 300 && marks < 5; i++) {
            int open = x.flowOf(0, OPEN);
            int marked = x.lineOf(1, 3);
            x.go(1);
            int answered = x.flowOf(0, OPEN) - open;
            int now = x.flowOf(0, W);
            if (answered == 1 && now < w) {
                Due.same("as loss", now, Math.max(1000, w / 2));
                marks++;
            } else if (answered == 1) {
                Due.yes("ack", now == w + 1000000 / w || now == Math.max(1000, w / 2));
            }
            Due.yes("some are MARKED before", marks == 0 || marked > 0);
            w = now;
        }
        Due.same("some were MARKED", marks, 5);
    }
}
